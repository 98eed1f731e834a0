/-! painted: what both count -/
theorem told_E {t np q n m : Nat} {I I' : Nat → Nat → Int32} (h2 : jZ I) (hnp : np ≤ 6) (hm : m ≤ 8) (h6 : zQ t np q m I) (h7 : zN np q n m I) (e : ∀ a k, 351 ≤ a → a ≤ 362 → I' a k = I a k) (c : Nat) : vE np q m (sPa (vB I 44) (nI c) (I t 9)) (cU I' q c (vR I 0)) := by
  have vv := h7.2.1
  obtain ⟨q10, q9, q13, qg, q14, qp, qd, qx, qpl, qy⟩ := h6
  obtain ⟨a1, a2, a3, a4, a5, a6, a7⟩ := aT_v I' 1 q10 (vR I 0) (fun j hj => by rw [e 361 j (by omega) (by omega)]; exact (h2 j).2.2.1)
  have a7 := a7 (by decide)
  have hqn := h7.1.2.1
  unfold cU sPa
  rw [q9]
  refine ⟨fun k hk => ?_, fun k hk => ?_, fun k hk => ?_, ?_, ?_, ?_⟩
  · rw [xu_f _ _ (by decide), xu_f _ _ (by decide), xu_f _ _ (by decide), xu_f _ _ (by decide), (a1 k (by omega)).1, (a1 k (by omega)).2, e 354 k (by omega) (by omega), e 353 k (by omega) (by omega)]; exact qp k hk
  · have d := qd k hk
    have b := a2 k hk
    have g := h7.1.2.2.2.2.2.1 k hk
    have w := vv.2.1 k (by omega)
    rw [xu_s, xu_s, xu_f _ _ (by decide), xu_f _ _ (by decide), xu_f _ _ (by decide), xu_f _ _ (by decide), xu_f _ _ (by decide), xu_f _ _ (by decide), xu_f _ _ (by decide), xu_f _ _ (by decide), xu_f _ _ (by decide), xu_f _ _ (by decide), xu_f _ _ (by decide), xu_f _ _ (by decide), xu_f _ _ (by decide), xu_f _ _ (by decide), xu_f _ _ (by decide), xu_f _ _ (by decide), a7 3 k (by omega), a7 4 k (by omega), a7 7 k (by omega), a7 8 k (by omega), b.1, b.2.1, b.2.2.1, b.2.2.2.1, e 358 k (by omega) (by omega), e 359 k (by omega) (by omega), e 362 k (by omega) (by omega)]
    exact ⟨g.1.symm.trans w.1, g.2.1.symm.trans w.2.1, d.2.2.1, d.2.2.2.1, g.2.2.1.symm.trans w.2.2.2.2.1, g.2.2.2.symm.trans w.2.2.2.2.2.1, d.2.2.2.2.2.2.1, d.2.2.2.2.2.2.2, rfl⟩
  · rw [xu_f _ _ (by decide), xu_f _ _ (by decide), a3 k (by omega)]; exact qx k hk
  · rw [xu_f _ _ (by decide), xu_f _ _ (by decide), a4]; exact qg.1.2.1
  · rw [xu_f _ _ (by decide), xu_f _ _ (by decide), a5, e 351 0 (by omega) (by omega)]; exact qpl
  · rw [xu_f _ _ (by decide), xu_f _ _ (by decide), a6]; exact qy
theorem sSag_r {B w : Int32} (h : ¬ B < 0) : sSag w B = rSag w B := by
  unfold sSag rSag
  by_cases c3 : B = 0
  · rw [if_pos c3, if_neg (by rw [c3]; exact Int32.lt_irrefl)]
  · rw [if_neg c3, if_pos (Int32.lt_of_le_of_ne (Int32.not_lt.mp h) (Ne.symm c3))]
    by_cases c4 : w * 100 / B < 9999
    · rw [if_pos c4, if_pos (Int32.le_of_lt c4)]
    · rw [if_neg c4]
      by_cases c5 : w * 100 / B ≤ 9999
      · rw [if_pos c5]; exact Int32.le_antisymm (Int32.not_lt.mp c4) c5
      · rw [if_neg c5]
theorem cT1_i (I : Nat → Nat → Int32) : ∀ j k, k < j → cT1 I j 396 k = 1
  | 0, k, h => absurd h (by omega)
  | j + 1, k, h => by
    rw [cT1]
    by_cases e : k = j
    · subst e; exact xu_s _ _ _ _
    · rw [xu_ne (by omega)]; exact cT1_i I j k (by omega)
/-- which sags are known: the bits of the program and the row of the reference -/
theorem known_b {I : Nat → Nat → Int32} {N : Nat} (hN : N ≤ 24) (hz : ∀ j, j < N → zS1 I j) : ∀ j, j ≤ N → ∀ (s u : Int32) (M : Nat → Nat → Int32), (∀ k, M 395 k = I 395 k) → (∀ i, i < j → (dB s i ↔ M 396 i = 0)) → (∀ i, i < j → ¬ dB u i) → (∀ i, j ≤ i → cD j M 396 i = M 396 i) ∧ (∀ i, i < j → (dB (sKb I j s u) i ↔ ¬ cD j M 396 i = 0 ∧ ¬ I 97 i = 2)) ∧ ∀ i, j ≤ i → i < 32 → (dB (sKb I j s u) i ↔ dB u i)
  | 0, _, s, u, M, _, _, _ => ⟨fun _ _ => rfl, fun i hi => absurd hi (by omega), fun _ _ _ => Iff.rfl⟩
  | j + 1, hj, s, u, M, h395, hs, hu => by
    have z := hz j (by omega)
    have sj := hs j (by omega)
    rw [sKb, cD]
    by_cases c1 : dB s j
    · have m0 := sj.mp c1
      have e : cSt M j = M := by unfold cSt; rw [if_neg (fun y => y.1 m0)]
      obtain ⟨i1, i2, i3⟩ := known_b hN hz j (by omega) s u M h395 (fun i hi => hs i (by omega)) (fun i hi => hu i (by omega))
      rw [if_pos c1, e]
      refine ⟨fun i hi => i1 i (by omega), fun i hi => ?_, fun i hi h32 => i3 i (by omega) h32⟩
      by_cases x : i = j
      · subst x
        rw [i3 i (Nat.le_refl _) (by omega), i1 i (Nat.le_refl _)]
        exact ⟨fun y => absurd y (hu i (by omega)), fun y => absurd m0 y.1⟩
      · exact i2 i (by omega)
    · have m1 : ¬ M 396 j = 0 := fun y => c1 (sj.mpr y)
      rw [if_neg c1]
      by_cases c2 : I 97 j = 2
      · rw [if_pos c2]
        rcases z with ⟨-, z2, z3, y, z4, z5⟩ | ⟨z1, -⟩
        · have e : cSt M j = xu M 396 y 0 := by
            unfold cSt
            rw [h395, h395, z2, z3, z5, if_pos ⟨m1, by decide⟩, nI_clamp (by omega)]
          rw [e, z5]
          obtain ⟨i1, i2, i3⟩ := known_b hN hz j (by omega) (s ||| (1 <<< (nI y &&& 31))) u (xu M 396 y 0) (fun k => (xu_f _ _ (by decide)).trans (h395 k)) (fun i hi => by
            rw [dB_or _ (by omega) (by omega), hs i (by omega)]
            by_cases x : i = y
            · subst x; rw [xu_s]; exact ⟨fun _ => rfl, fun _ => Or.inr rfl⟩
            · rw [xu_ne (by omega)]; exact ⟨fun w => w.resolve_right x, fun w => Or.inl w⟩) (fun i hi => hu i (by omega))
          refine ⟨fun i hi => (i1 i (by omega)).trans (xu_ne (by omega)), fun i hi => ?_, fun i hi h32 => i3 i (by omega) h32⟩
          by_cases x : i = j
          · subst x
            rw [i3 i (Nat.le_refl _) (by omega)]
            exact ⟨fun w => absurd w (hu i (by omega)), fun w => absurd c2 w.2⟩
          · exact i2 i (by omega)
        · rcases z1 with z1 | z1
          · rw [z1] at c2; exact absurd c2 (by decide)
          · rw [z1] at c2; exact absurd c2 (by decide)
      · rw [if_neg c2]
        rcases z with ⟨z1, -⟩ | ⟨z1, z2, z3, z4, -⟩
        · exact absurd z1 c2
        · have e : cSt M j = M := by
            unfold cSt
            rw [h395, z3, if_neg (fun w => z4.lt0 (by omega) w.2)]
          rw [e]
          obtain ⟨i1, i2, i3⟩ := known_b hN hz j (by omega) s (u ||| (1 <<< (nI j &&& 31))) M h395 (fun i hi => hs i (by omega)) (fun i hi w => by
            rw [dB_or _ (by omega) (by omega)] at w
            rcases w with w | w
            · exact hu i (by omega) w
            · omega)
          refine ⟨fun i hi => i1 i (by omega), fun i hi => ?_, fun i hi h32 => ?_⟩
          · by_cases x : i = j
            · subst x
              rw [i3 i (Nat.le_refl _) (by omega), dB_or _ (by omega) (by omega), i1 i (Nat.le_refl _)]
              exact ⟨fun _ => ⟨m1, c2⟩, fun _ => Or.inr rfl⟩
            · exact i2 i (by omega)
          · rw [i3 i (by omega) h32, dB_or _ (by omega) h32]
            exact ⟨fun w => w.resolve_right (by omega), fun w => Or.inl w⟩
theorem sLy_ge (I : Nat → Nat → Int32) (w : Int32) : ∀ s i, i < s → dB w i → ¬ sLy I w s < I 94 i
  | 0, i, h, _ => absurd h (by omega)
  | s + 1, i, h, hb => by
    rw [sLy]
    by_cases c : dB w s
    · rw [if_pos c]
      by_cases e : i = s
      · subst e
        by_cases d : sLy I w i < I 94 i
        · rw [if_pos d]; exact Int32.lt_irrefl
        · rw [if_neg d]; exact d
      · have ih := sLy_ge I w s i (by omega) hb
        by_cases d : sLy I w s < I 94 s
        · rw [if_pos d]
          intro z
          exact ih (Int32.lt_trans d z)
        · rw [if_neg d]; exact ih
    · rw [if_neg c]
      have e : i ≠ s := fun z => c (by rw [← z]; exact hb)
      exact sLy_ge I w s i (by omega) hb
theorem cLs_ge (M : Nat → Nat → Int32) : ∀ s i, i < s → ¬ M 396 i = 0 → M 395 (4 * i) ≤ cLs M s
  | 0, i, h, _ => absurd h (by omega)
  | s + 1, i, h, hb => by
    rw [cLs]
    by_cases c : ¬ M 396 s = 0 ∧ ¬ M 395 (4 * s) ≤ cLs M s
    · rw [if_pos c]
      by_cases e : i = s
      · subst e; exact Int32.le_refl _
      · have ih := cLs_ge M s i (by omega) hb
        exact Int32.le_of_lt (Int32.lt_of_le_of_lt ih (Int32.not_le.mp c.2))
    · rw [if_neg c]
      by_cases e : i = s
      · subst e
        exact Classical.byContradiction fun z => c ⟨hb, z⟩
      · exact cLs_ge M s i (by omega) hb
/-- a known sag fits at its year -/
def fitS (I : Nat → Nat → Int32) (B : Nat → Int32) (i : Nat) : Prop := ¬ sSag (I 95 i) (B (I 94 i).toNatClampNeg) < I 96 i ↔ I 97 i = 1
theorem sMk_f {I : Nat → Nat → Int32} {B : Nat → Int32} {w : Int32} {s kb : Nat} (hs : s ≤ 24) (hk : kb ≤ s) (hw : ∀ i, i < s → (dB w i → i < kb ∧ in0 (I 94 i) 0 50)) : sMk I B w s (lastY I w s) ↔ ∀ i, i < kb → dB w i → fitS I B i := by
  unfold sMk
  constructor
  · intro h i hi hb
    obtain ⟨-, y, -, y2, y3⟩ := hw i (by omega) hb
    have ge := sLy_ge I w s i (by omega) hb
    have le : nI y ≤ lastY I w s := by
      unfold lastY
      by_cases c : 50 < sLy I w s
      · rw [if_pos c]; exact nI_le (b := 50) (by omega) (by omega)
      · rw [if_neg c, ← y3]; exact Int32.not_lt.mp ge
    have := h y y2 le i (by omega)
    unfold okA at this
    unfold fitS
    rw [y3, nI_clamp (by omega)]
    rw [y3] at this
    rcases this with z | z | z
    · have hb2 : (w >>> (nI i &&& 31)) &&& 1 = 1 := hb
      rw [hb2] at z; exact absurd z (by decide)
    · exact absurd rfl z
    · exact z
  · intro h y hy hl i hi
    unfold okA
    by_cases hb : dB w i
    · obtain ⟨hik, y', -, y2, y3⟩ := hw i hi hb
      by_cases e : I 94 i = nI y
      · right; right
        have f := h i hik hb
        unfold fitS at f
        rw [e, nI_clamp (by omega)] at f
        exact f
      · exact Or.inr (Or.inl e)
    · left
      have : ∀ x : Int32, (x &&& 1 = 0 ∨ x &&& 1 = 1) := fun x => by
        have e1 : x &&& 1 = x &&& (1 : Int32) := rfl
        rcases Bool.eq_false_or_eq_true (x.toBitVec.getLsbD 0) with c | c
        · right
          rw [← Int32.toBitVec_inj, Int32.toBitVec_and, show (1 : Int32).toBitVec = 1#32 from rfl]
          apply BitVec.eq_of_getLsbD_eq
          intro k hk
          rw [BitVec.getLsbD_and, BitVec.getLsbD_one]
          by_cases k0 : k = 0
          · subst k0; simp [c]
          · simp [k0]
        · left
          rw [← Int32.toBitVec_inj, Int32.toBitVec_and, show (1 : Int32).toBitVec = 1#32 from rfl]
          apply BitVec.eq_of_getLsbD_eq
          intro k hk
          rw [BitVec.getLsbD_and, BitVec.getLsbD_one]
          by_cases k0 : k = 0
          · subst k0; rw [c]; simp
          · simp [k0]
      exact (this _).resolve_right hb
