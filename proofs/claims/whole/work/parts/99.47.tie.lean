/-! tie -/
theorem bI_hi {x k : Nat} (hx : x < 2 ^ k) (hk : k < 12) : bI (nI x) k = 0 := by
  rw [bI_v _ hk, nI_bv, BitVec.getLsbD_ofNat, Nat.testBit_lt_two_pow hx]
  simp
theorem sAdd_o (V : Nat → Nat → Int32) (n : Nat) (p q w f u : Int32) {g k : Nat} (h : ¬ (3 ≤ g ∧ g ≤ 10 ∧ k = n)) (h2 : ¬ (g = 13 ∧ k = 0)) : sAdd V n p q w f u g k = V g k := by
  unfold sAdd
  rw [xu_ne (by omega), xu_ne (by omega), xu_ne (by omega), xu_ne (by omega), xu_ne (by omega), xu_ne (by omega), xu_ne (by omega), xu_ne (by omega), xu_ne (by omega)]
theorem rAdd_o (V : Nat → Nat → Int32) (n : Nat) (p q w u : Int32) {g k : Nat} (h : ¬ (3 ≤ g ∧ g ≤ 10 ∧ k = n)) (h2 : ¬ (g = 13 ∧ k = 0)) (h3 : ¬ (g = 12 ∧ k = 0)) : rAdd V n p q w u g k = V g k := by
  unfold rAdd
  show xu (xu _ 12 0 _) 13 0 _ g k = _
  rw [xu_ne (by omega), xu_ne (by omega), xu_ne (by omega), xu_ne (by omega), xu_ne (by omega), xu_ne (by omega), xu_ne (by omega), xu_ne (by omega), xu_ne (by omega), xu_ne (by omega)]
theorem sAdd_i (V : Nat → Nat → Int32) (n : Nat) (p q w f u : Int32) : sAdd V n p q w f u 3 n = p ∧ sAdd V n p q w f u 4 n = q ∧ sAdd V n p q w f u 5 n = w ∧ sAdd V n p q w f u 6 n = f ∧ sAdd V n p q w f u 7 n = u ∧ sAdd V n p q w f u 8 n = V 15 0 ∧ sAdd V n p q w f u 9 n = 0 ∧ sAdd V n p q w f u 10 n = -1 ∧ sAdd V n p q w f u 13 0 = nI (n + 1) := by
  unfold sAdd
  refine ⟨?_, ?_, ?_, ?_, ?_, ?_, ?_, ?_, xu_s _ _ _ _⟩ <;> simp [xu]
theorem rAdd_i (V : Nat → Nat → Int32) (n : Nat) (p q w u : Int32) : rAdd V n p q w u 3 n = p ∧ rAdd V n p q w u 4 n = q ∧ rAdd V n p q w u 5 n = w ∧ rAdd V n p q w u 6 n = 0 ∧ rAdd V n p q w u 7 n = u ∧ rAdd V n p q w u 8 n = V 15 0 ∧ rAdd V n p q w u 9 n = 0 ∧ rAdd V n p q w u 10 n = -1 ∧ rAdd V n p q w u 13 0 = nI (n + 1) ∧ rAdd V n p q w u 12 0 = setB (V 12 0) n 0 := by
  unfold rAdd
  refine ⟨?_, ?_, ?_, ?_, ?_, ?_, ?_, ?_, xu_s _ _ _ _, ?_⟩ <;> simp [xu]
theorem tie_Cl {E : xCl} {ex : Bool} (a c w v : Int32) : Cl E ex yX10_tie [.ref 0, .int a, .int c, .int w, .int v] yX11_tie [.ref 347, .int a, .int c, .int w, .int v] := by
  intro I J P hX N hN
  obtain ⟨t, np, q, n, m, s, kb, u, sn, h⟩ := hX
  have h1 := h.1
  have h3 := h.2.2.1
  have h7 := h.2.2.2.2.2.2.1
  have h9 := h.2.2.2.2.2.2.2.2.1
  have hp := h7.2.2.2.2.2
  have n12 := h7.1.1.1
  have np6 := h3.1
  have e3 : I t 3 = I 347 12 := h3.2.1.trans h3.2.2.1.symm
  have ok : okY I t n a c w v ↔ rOkY (xu I 347 2 0) n a c w v := by
    unfold okY rOkY isP
    rw [xu_ne (by omega), xu_ne (by omega), xu_ne (by omega), e3]
    have es : ∀ (p : Int32), (¬ p < 0 ∧ ¬ I 347 12 ≤ p) → I (t + 2) p.toNatClampNeg = I 353 p.toNatClampNeg := fun p z => by
      rw [← e3] at z
      obtain ⟨j, hj, rfl⟩ := h3.p z
      rw [nI_clamp (by omega)]; exact (h3.2.2.2 j hj).2.1
    constructor
    · rintro ⟨z1, z2, z3, z4, z5, z6, z7, z8⟩
      exact ⟨z1, z2, by rw [← es a z1, ← es c z2]; exact z3, ⟨z4, z5⟩, ⟨z6, z7⟩, z8⟩
    · rintro ⟨z1, z2, z3, ⟨z4, z5⟩, ⟨z6, z7⟩, z8⟩
      exact ⟨z1, z2, by rw [es a z1, es c z2]; exact z3, z4, z5, z6, z7, z8⟩
  by_cases b : okY I t n a c w v
  · have b' := ok.mp b
    have cc := k_tie_t (E := E) (ex := ex) (I := I) (V := vB I 56) (J := J) h1.2.1 h1.1 h1.2.2.1 h1.2.2.2.2.2 h9.2.1 h9.2.2.2.1 h9.1 h9.2.2.1 h3.1 h3.2.1 h7.1.1 b 0
    rw [wB_vB] at cc
    have a1 : ∀ x k, 347 ≤ x → xu (wB (svI I (vB I 56) sn u) 56 (sAdd (vB I 56) n a c w 0 v)) 347 2 0 x k = xu I 347 2 0 x k := fun x k z => by
      simp only [xu]
      rw [act_e h9.2.1 (by have := h9.2.1; omega)]
    have nlt : n < 12 := b.2.2.2.2.2.2.2
    have rr := k_rtie_t (E := E) (ex := ex) (I := wB (svI I (vB I 56) sn u) 56 (sAdd (vB I 56) n a c w 0 v)) (V := vR I 0) (e := I 347 52) (J := J) (h1.2.1.xb (sv_b sn h9.2.1) (t + 1)) rfl h7.rv.1 h9.1 ((a1 _ _ (by omega)).trans ((xu_ne (by omega)).trans h9.2.2.2.2.1)) h3.1 ((a1 _ _ (by omega)).trans ((xu_ne (by omega)).trans h3.2.2.1)) (a := a) (c := c) (w := w) (v := v) (by
      have := b'
      unfold rOkY at this ⊢
      rw [a1 347 12 (by omega), a1 353 _ (by omega), a1 353 _ (by omega)]; exact this) (by rw [h7.rv.1.2.1]; exact vp_in_nI nlt (by decide)) (by rw [h7.rv.1.2.1]; exact nI_clamp (by omega)) 0
    obtain ⟨ja, hja, rfl⟩ := h3.p b.1
    obtain ⟨jc, hjc, rfl⟩ := h3.p b.2.1
    obtain ⟨s1, s2, s3, s4, s5, s6, s7, s8, s9⟩ := sAdd_i (vB I 56) n (nI ja) (nI jc) w 0 v
    obtain ⟨r1, r2, r3, r4, r5, r6, r7, r8, r9, r10⟩ := rAdd_i (vR I 0) n (nI ja) (nI jc) w v
    have so : ∀ g k, ¬ (3 ≤ g ∧ g ≤ 10 ∧ k = n) → ¬ (g = 13 ∧ k = 0) → sAdd (vB I 56) n (nI ja) (nI jc) w 0 v g k = vB I 56 g k := fun g k z1 z2 => sAdd_o _ _ _ _ _ _ _ z1 z2
    have ro' : ∀ g k, ¬ (3 ≤ g ∧ g ≤ 10 ∧ k = n) → ¬ (g = 13 ∧ k = 0) → ¬ (g = 12 ∧ k = 0) → rAdd (vR I 0) n (nI ja) (nI jc) w v g k = vR I 0 g k := fun g k z1 z2 z3 => rAdd_o _ _ _ _ _ _ z1 z2 z3
    obtain ⟨⟨g1, g2, g3, g4⟩, gq, gt, gb, gw, gf, ⟨x, gx1, gx2⟩, gp, gy⟩ := h7.1
    have vv := h7.2.1
    have pj : ∀ k, k < ja + 1 → True := fun _ _ => trivial
    refine Cl.act h (n' := n + 1) (by omega) ⟨⟨by omega, s9, fun k => ?_, fun k => ?_⟩, by omega, fun j hj => ?_, fun j hj => ?_, fun j hj z => ?_, fun j hj => ?_, ⟨x, gx1, ?_⟩, ?_, ?_⟩ ⟨fun k hk => ?_, fun k hk => ?_, fun k hk => ?_, ?_, ?_, ?_⟩ ⟨fun k hk => ?_, fun k hk => ?_, ?_, ?_⟩ (fun k hk => ?_) (x_le (by omega) cc) (x_le (by omega) rr)
    · by_cases e : k = n
      · subst e; rw [s1]; exact vp_in_nI (by omega) (by decide)
      · rw [so 3 k (by omega) (by omega)]; exact g3 k
    · by_cases e : k = n
      · subst e; rw [s2]; exact vp_in_nI (by omega) (by decide)
      · rw [so 4 k (by omega) (by omega)]; exact g4 k
    · by_cases e : j = n
      · subst e; exact Or.inl s8
      · rw [so 10 j (by omega) (by omega)]
        rcases gt j (by omega) with z | ⟨y, z1, z2, z3, z4⟩
        · exact Or.inl z
        · exact Or.inr ⟨y, by omega, z2, z3, by rw [so 10 y (by omega) (by omega)]; exact z4⟩
    · by_cases e : j = n
      · subst e; rw [s1, s2]; exact ⟨vp_in_nI hja (by omega), vp_in_nI hjc (by omega)⟩
      · rw [so 3 j (by omega) (by omega), so 4 j (by omega) (by omega)]; exact gb j (by omega)
    · by_cases e : j = n
      · subst e; rw [s3, s4]
        exact ⟨(in0.of (a := 1) (b := 999) (by omega) b.2.2.2.1 b.2.2.2.2.1 (by omega)).mo (by omega), ⟨0, by omega, by omega, rfl⟩⟩
      · rw [so 9 j (by omega) (by omega)] at z
        rw [so 5 j (by omega) (by omega), so 6 j (by omega) (by omega)]; exact gw j (by omega) z
    · rw [so 3 j (by omega) (by omega), so 4 j (by omega) (by omega), so 7 j (by omega) (by omega), so 8 j (by omega) (by omega)]; exact gf j hj
    · rw [so 12 0 (by omega) (by omega)]; exact gx2
    · rw [so 14 0 (by omega) (by omega)]; exact gp
    · rw [so 15 0 (by omega) (by omega)]; exact gy
    · rw [so 1 k (by omega) (by omega), so 2 k (by omega) (by omega), ro' 1 k (by omega) (by omega) (by omega), ro' 2 k (by omega) (by omega) (by omega)]; exact vv.1 k hk
    · have bb : bI (rAdd (vR I 0) n (nI ja) (nI jc) w v 12 0) k = if k = n then 0 else bI (vR I 0 12 0) k := by rw [r10]; exact bI_set _ nlt (by omega) (Or.inl rfl)
      rw [so 12 0 (by omega) (by omega), bb]
      by_cases e : k = n
      · subst e
        rw [if_pos rfl, s1, s2, s3, s4, s5, s6, s7, s8, r1, r2, r3, r4, r5, r6, r7, r8, vv.2.2.2.2.2, gx2]
        exact ⟨rfl, rfl, rfl, rfl, rfl, rfl, rfl, rfl, bI_hi (Nat.lt_of_lt_of_le gx1 (Nat.pow_le_pow_right (by omega) gq)) nlt⟩
      · rw [if_neg e, so 3 k (by omega) (by omega), so 4 k (by omega) (by omega), so 5 k (by omega) (by omega), so 6 k (by omega) (by omega), so 7 k (by omega) (by omega), so 8 k (by omega) (by omega), so 9 k (by omega) (by omega), so 10 k (by omega) (by omega), ro' 3 k (by omega) (by omega) (by omega), ro' 4 k (by omega) (by omega) (by omega), ro' 5 k (by omega) (by omega) (by omega), ro' 6 k (by omega) (by omega) (by omega), ro' 7 k (by omega) (by omega) (by omega), ro' 8 k (by omega) (by omega) (by omega), ro' 9 k (by omega) (by omega) (by omega), ro' 10 k (by omega) (by omega) (by omega)]
        exact vv.2.1 k (by omega)
    · rw [so 11 k (by omega) (by omega), ro' 11 k (by omega) (by omega) (by omega)]; exact vv.2.2.1 k hk
    · rw [s9, r9]
    · rw [so 14 0 (by omega) (by omega), ro' 14 0 (by omega) (by omega) (by omega)]; exact vv.2.2.2.2.1
    · rw [so 15 0 (by omega) (by omega), ro' 15 0 (by omega) (by omega) (by omega)]; exact vv.2.2.2.2.2
    · exact ⟨so 3 k (by omega) (by omega), so 4 k (by omega) (by omega), so 5 k (by omega) (by omega), so 6 k (by omega) (by omega), so 7 k (by omega) (by omega), so 8 k (by omega) (by omega)⟩
    · exact so 11 k (by omega) (by omega)
    · exact so 12 0 (by omega) (by omega)
    · exact so 15 0 (by omega) (by omega)
    · by_cases e : k = n
      · subst e
        rw [r1, r2, r4, r8]
        exact ⟨vp_in_nI (by omega) (by decide), vp_in_nI (by omega) (by decide), Or.inl m1_lt, 0, by omega, by omega, rfl⟩
      · rw [ro' 3 k (by omega) (by omega) (by omega), ro' 4 k (by omega) (by omega) (by omega), ro' 10 k (by omega) (by omega) (by omega), ro' 6 k (by omega) (by omega) (by omega)]
        exact h7.w (fun _ _ _ _ _ _ => rfl) h7.t12 k hk
  · have cc := k_tie_n (E := E) (ex := ex) (I := I) (V := vB I 56) (J := J) h1.2.1 h1.1 h1.2.2.1 h1.2.2.2.2.2 h3.1 h3.2.1 h7.1.1 b 0
    rw [wB_vB] at cc
    have rr := k_rtie_f (E := E) (ex := ex) (I := I) (V := vR I 0) (e := I 347 52) (J := J) h1.2.1 rfl h7.rv.1 h3.1 ((xu_ne (by omega)).trans h3.2.2.1) (a := a) (c := c) (w := w) (v := v) (fun z => b (ok.mpr z)) 0
    rw [preR hp, postR hp] at rr
    exact Cl.ro h (x_le (by omega) cc) (x_le (by omega) rr)
