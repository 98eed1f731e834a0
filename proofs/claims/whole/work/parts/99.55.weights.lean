/-! weights without some strands -/
theorem cV_v (V : Nat → Nat → Int32) (S : Nat) : ∀ j, (∀ f k, f ≠ 9 → cV V S j f k = V f k) ∧ ∀ k, cV V S j 9 k = if k < j ∧ S.testBit k = true then 2 else V 9 k
  | 0 => ⟨fun _ _ _ => rfl, fun k => by rw [if_neg (fun z => absurd z.1 (by omega))]; rfl⟩
  | j + 1 => by
    obtain ⟨i1, i2⟩ := cV_v V S j
    rw [cV]
    by_cases c : S.testBit j = true
    · rw [if_pos c]
      refine ⟨fun f k hf => (xu_f _ _ hf).trans (i1 f k hf), fun k => ?_⟩
      by_cases e : k = j
      · subst e; rw [xu_s, if_pos ⟨by omega, c⟩]
      · rw [xu_ne (by omega), i2]
        by_cases d : k < j ∧ S.testBit k = true
        · rw [if_pos d, if_pos ⟨by omega, d.2⟩]
        · rw [if_neg d, if_neg (fun z => d ⟨by omega, z.2⟩)]
    · rw [if_neg c]
      refine ⟨i1, fun k => ?_⟩
      rw [i2]
      by_cases d : k < j ∧ S.testBit k = true
      · rw [if_pos d, if_pos ⟨by omega, d.2⟩]
      · rw [if_neg d, if_neg (fun z => d ⟨by
          by_cases e : k = j
          · subst e; exact absurd z.2 c
          · omega, z.2⟩)]
theorem sWo_cut {V X : Nat → Nat → Int32} {L : Nat → (Nat → Int64) → Int64} {n : Nat} {cut : Int32} (hv : Vok V n) (ht : Tok V n) (e : ∀ f k, f ≠ 9 → X f k = V f k) (h9 : ∀ k, k < n → (X 9 k = 0 ↔ V 9 k = 0 ∧ (cut >>> (nI k &&& 31)) &&& 1 = 0)) : ∀ j, j ≤ n → sWo V (gS V L) (gT V L) cut j = sBr X L j
  | 0, _ => (e 14 0 (by decide)).symm
  | j + 1, hj => by
    have n12 := hv.1
    have hX : Vok X n := ⟨hv.1, (e 13 0 (by decide)).trans hv.2.1, fun k => by rw [e 3 k (by decide)]; exact hv.2.2.1 k, fun k => by rw [e 4 k (by decide)]; exact hv.2.2.2 k⟩
    have sy : ∀ k, k < n → (sSy V cut (nI k) ↔ X 9 k = 0) := fun k hk => by
      rw [h9 k hk]
      exact ⟨fun z => ⟨(hv.t hk).mp z.1, z.2⟩, fun z => ⟨(hv.t hk).mpr z.1, z.2⟩⟩
    have al : ∀ k, k < n → X 9 k = 0 → ∀ t, sAl X L (nI k) t = sAl V L (nI k) t := fun k hk z t => by
      have z1 : sTh X (nI k) := (hX.t hk).mpr z
      have z2 : sTh V (nI k) := (hv.t hk).mpr ((h9 k hk).mp z).1
      have en : sNm X (nI k) t = sNm V (nI k) t := by
        unfold sNm
        rw [e 5 _ (by decide), e 6 _ (by decide), e 15 _ (by decide), e 8 _ (by decide), e 7 _ (by decide), e 3 _ (by decide), e 1 _ (by decide)]
      unfold sAl
      rw [en, e 12 0 (by decide), e 5 _ (by decide), e 6 _ (by decide)]
      by_cases c : (V 12 0 >>> (nI k &&& 31)) &&& 1 = 1
      · rw [if_pos (Or.inr c), if_pos (Or.inr c)]
      · rw [if_neg (fun y => y.elim (fun y => y z1) c), if_neg (fun y => y.elim (fun y => y z2) c)]
    have ih := sWo_cut (L := L) hv ht e h9 j (by omega)
    have m1 : ∀ (Y : Nat → Nat → Int32), ¬ sTh Y (-1) := fun Y z => z.1.1 m1_lt
    rw [sWo, sBr]
    by_cases c1 : X 9 j = 0
    · rw [if_pos ((sy j (by omega)).mpr c1), if_pos c1, e 10 j (by decide)]
      have v1 := ((h9 j (by omega)).mp c1).1
      have g0 : gS V L j = sAl X L (nI j) 0 := (al j (by omega) c1 0).symm
      have t0 : ∀ (Y : Nat → Nat → Int32), Vok Y n → sTwo Y (nI j) = if sTh Y (Y 10 j) then 1 else 0 := fun Y hY => by unfold sTwo; rw [hY.c (by omega)]
      rcases ht j (by omega) with z | ⟨y, z1, z2, z3, z4⟩
      · rw [z, if_neg (fun w => m1 V w.1), t0 X hX, e 10 j (by decide), z, if_neg (m1 X), if_pos rfl, ih, g0]
      · rw [z3]
        by_cases c2 : X 9 y = 0
        · have v2 := ((h9 y z1).mp c2).1
          rw [if_pos ((sy y z1).mpr c2), t0 X hX, e 10 j (by decide), z3, if_pos ((hX.t z1).mpr c2), if_neg (show ¬ (1 : Int32) = 0 by decide)]
          by_cases c3 : nI y ≤ nI j
          · rw [if_pos c3, if_pos c3, ih]
          · have t1 : gT V L j = sAl X L (nI j) 1 := by
              unfold gT
              rw [t0 V hv, z3, if_pos ((hv.t z1).mpr v2), if_pos rfl, al j (by omega) c1]
            have t2 : gT V L (nI y).toNatClampNeg = sAl X L (nI y) 1 := by
              rw [hv.c z1]
              unfold gT sTwo
              rw [hv.c z1, z4, if_pos ((hv.t (by omega)).mpr v1), if_pos rfl, al y z1 c2]
            rw [if_neg c3, if_neg c3, ih, t1, t2]
        · rw [if_neg (fun w => c2 ((sy y z1).mp w)), t0 X hX, e 10 j (by decide), z3, if_neg (fun w => c2 ((hX.t z1).mp w)), if_pos rfl, ih, g0]
    · rw [if_neg (fun w => c1 ((sy j (by omega)).mp w)), if_neg c1, ih]
theorem sWw_c {V : Nat → Nat → Int32} {n : Nat} (hv : Vok V n) (ht : Tok V n) (L : Nat → (Nat → Int64) → Int64) {S : Nat} (hS : S < 2 ^ 12) : sWw V L n (nI S) = sBr (cV V S n) L n := by
  obtain ⟨e1, e2⟩ := cV_v V S n
  have n12 := hv.1
  refine sWo_cut hv ht e1 (fun k hk => ?_) n (Nat.le_refl _)
  rw [e2, bz_0 (by omega) (by omega)]
  by_cases c : S.testBit k = true
  · rw [if_pos ⟨hk, c⟩, c]; exact ⟨fun z => absurd z (by decide), fun z => absurd z.2 (by decide)⟩
  · rw [if_neg (fun z => c z.2)]
    exact ⟨fun z => ⟨z, by simpa using c⟩, fun z => z.1⟩
theorem vE.cv {np n m : Nat} {V W : Nat → Nat → Int32} (h : vE np n m V W) (S : Nat) : ∀ j, vE np n m (cV V S j) (cV W S j)
  | 0 => h
  | j + 1 => by
    rw [cV, cV]
    split
    · exact (h.cv S j).x1 (by decide)
    · exact h.cv S j
theorem Bd.cv {np n : Nat} {V : Nat → Nat → Int32} (h : Bd np n V) (S j : Nat) : Bd np n (cV V S j) := fun k hk => by
  rw [(cV_v V S j).1 3 k (by decide), (cV_v V S j).1 4 k (by decide)]; exact h k hk
theorem Vw.cv {n : Nat} {V : Nat → Nat → Int32} (h : Vw n V) (S j : Nat) : Vw n (cV V S j) := fun k hk z => by
  obtain ⟨e1, e2⟩ := cV_v V S j
  rw [e2] at z
  rw [e1 5 k (by decide), e1 6 k (by decide)]
  by_cases c : k < j ∧ S.testBit k = true
  · rw [if_pos c] at z; exact absurd z (by decide)
  · rw [if_neg c] at z; exact h k hk z
theorem in0.adp {x y : Int32} {p a b c : Nat} (h : in0 x p a) (g : in0 y 0 b) (hc : a + b ≤ c) : in0 (x + y) p c := by
  obtain ⟨n, h1, h2, rfl⟩ := h
  obtain ⟨k, -, g2, rfl⟩ := g
  exact ⟨n + k, by omega, by omega, nI_add n k⟩
theorem in0.mop {x : Int32} {p a c : Nat} (h : in0 x p a) (hc : a ≤ c) : in0 x p c := by
  obtain ⟨n, h1, h2, rfl⟩ := h
  exact ⟨n, h1, by omega, rfl⟩
theorem in0.brp {V : Nat → Nat → Int32} {n p : Nat} (hv : Vok V n) (h : Vw n V) (h14 : V 14 0 = nI p) (L : Nat → (Nat → Int64) → Int64) : ∀ j, j ≤ n → in0 (sBr V L j) p (p + 40000 * j)
  | 0, _ => ⟨p, by omega, by omega, h14⟩
  | j + 1, hj => by
    have hn := hv.1
    have ih := in0.brp hv h h14 L j (by omega)
    have a0 := in0.al hv h L (nI j) 0
    have a1 := in0.al hv h L (nI j) 1
    have a2 := in0.al hv h L (V 10 j) 1
    rw [sBr]
    by_cases c1 : V 9 j = 0
    · rw [if_pos c1]
      by_cases c2 : sTwo V (nI j) = 0
      · rw [if_pos c2]; exact ih.adp a0 (by omega)
      · rw [if_neg c2]
        by_cases c3 : V 10 j ≤ nI j
        · rw [if_pos c3]; exact ih.mop (by omega)
        · rw [if_neg c3]
          have w1 := a1.ad a2 (c := 19998) (by omega)
          exact ih.adp (w1.ad (w1.hf (by omega)) (c := 39996) (by omega)) (by omega)
    · rw [if_neg c1]; exact ih.mop (by omega)
theorem bC_pc0 : ∀ a : Fin 64, ∀ b : Fin 64, bC (nI (64 * a.val + b.val)) = nI (pcT (64 * a.val + b.val) 12) := by decide +kernel
theorem bC_pc {S : Nat} (h : S < 2 ^ 12) : bC (nI S) = nI (pcT S 12) := by
  have := bC_pc0 ⟨S / 64, by omega⟩ ⟨S % 64, by omega⟩
  rw [show 64 * (⟨S / 64, by omega⟩ : Fin 64).val + (⟨S % 64, by omega⟩ : Fin 64).val = S from Nat.div_add_mod S 64] at this
  exact this
theorem rMo_pc {S : Nat} (h : S < 2 ^ 12) : ∀ j, j ≤ 12 → rMo (nI S) j = nI (pcT S j)
  | 0, _ => rfl
  | j + 1, hj => by
    rw [rMo, pcT, rMo_pc h j (by omega), ← nI_add]
    congr 1
    exact bz_bit (by omega) (by omega)
theorem sub_iff (x t : Int32) : x &&& (t ^^^ (-1)) = 0 ↔ ∀ k, k < 32 → dB x k → dB t k := by
  have em : (-1 : Int32).toBitVec = BitVec.allOnes 32 := by decide
  rw [← Int32.toBitVec_inj, Int32.toBitVec_and, Int32.toBitVec_xor, em]
  constructor
  · intro h k hk
    rw [dB_iff _ hk, dB_iff _ hk]
    intro hx
    have h2 := congrArg (fun z => BitVec.getLsbD z k) h
    simp only [BitVec.getLsbD_and, BitVec.getLsbD_xor, BitVec.getLsbD_allOnes] at h2
    simp [hk, hx] at h2
    exact h2
  · intro h
    apply BitVec.eq_of_getLsbD_eq
    intro k hk
    rw [BitVec.getLsbD_and, BitVec.getLsbD_xor, BitVec.getLsbD_allOnes]
    have := h k hk
    rw [dB_iff _ hk, dB_iff _ hk] at this
    by_cases c : x.toBitVec.getLsbD k = true
    · simp [hk, c, this c]
    · simp [c]
theorem sub_at {V : Nat → Nat → Int32} {n S : Nat} (hn : n ≤ 12) (hS : S < 2 ^ n) : nI S &&& (sTB V n ^^^ (-1)) = 0 ↔ ∀ j, j < n → S.testBit j = true → V 9 j = 0 := by
  have h12 : S < 2 ^ 12 := Nat.lt_of_lt_of_le hS (Nat.pow_le_pow_right (by omega) hn)
  have hb : ∀ k, k < 32 → (dB (nI S) k ↔ S.testBit k = true) := fun k hk => by
    rw [dB_iff _ hk, nI_bv, BitVec.getLsbD_ofNat]
    simp [hk]
  rw [sub_iff]
  constructor
  · intro h j hj hb2
    exact ((sTB_d (V := V) n (by omega) j (by omega)).mp (h j (by omega) ((hb j (by omega)).mpr hb2))).2
  · intro h k hk hd
    have hd2 := (hb k hk).mp hd
    have hkn : k < n := Classical.byContradiction fun z => by
      rw [Nat.testBit_lt_two_pow (Nat.lt_of_lt_of_le hS (Nat.pow_le_pow_right (by omega) (by omega)))] at hd2
      exact absurd hd2 (by decide)
    exact (sTB_d (V := V) n (by omega) k hk).mpr ⟨hkn, h k hkn hd2⟩
