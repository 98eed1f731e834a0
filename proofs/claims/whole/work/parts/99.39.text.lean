/-! text, on both sides -/
theorem wB_l (I : Nat → Nat → Int32) (b : Nat) (V : Nat → Nat → Int32) {f k : Nat} (h1 : 1 ≤ f) (h2 : f < 12) (hk : ¬ k < bl f) : wB I b V (b + f) k = I (b + f) k := by
  simp only [wB]
  rw [if_neg (by omega), if_neg (by rw [Nat.add_sub_cancel_left]; omega)]
theorem wB_l0 (I : Nat → Nat → Int32) (b : Nat) (V : Nat → Nat → Int32) {k : Nat} (hk : ¬ (12 ≤ k ∧ k < 16)) : wB I b V b k = I b k := by
  simp only [wB, if_true]
  rw [if_neg hk]
set_option maxHeartbeats 4000000 in
theorem text_Cl {E : xCl} {ex : Bool} (hE : EW E) (x : Int32) : Cl E ex yX10_text [.ref 0, .int x] yX11_text [.ref 347, .int x] := by
  intro I J P hX n hn
  obtain ⟨t, np, q, nn, m, s0, kb, u, sn, h⟩ := hX
  have h' := h
  obtain ⟨h1, h2, h3, h4, h5, h6, h7, h8, h9, h10⟩ := h'
  obtain ⟨⟨nt, a1, a2, a3, a4⟩, a5, a6, a7, a8, a9⟩ := h2
  have ht := tl_c h1.1
  have ht2 := t2_in h1.1
  by_cases hx : ¬ x < 0 ∧ x ≤ I 0 1
  case neg =>
    have r1 := x_le (show 1 ≤ n by omega) (ctx_n (E := E) (ex := ex) (I := I) (J := J) (P := P) hx 0)
    have r2 := rtx_n (M := I) (x := x) (by rw [a3, ← a2]; exact hx) E ex I J P n (by omega) h1.2.1
    rw [uR_id] at r2
    have e : uR (xu I 347 2 0) I = xu I 347 2 0 := by
      funext a k
      simp only [uR]
      by_cases c : 347 ≤ a ∧ a ≤ 403
      · rw [if_pos c]
      · rw [if_neg c, xu_ne (by omega)]
    rw [e] at r2
    exact ⟨_, I, J, P, _, J, r1, r2, t, np, q, nn, m, s0, kb, u, sn, h.g (fun a k z => xu_ne (by omega)) (Ap.rf P) (h7.2.2.2.2.2.c (fun k => xu_ne (by omega)))⟩
  obtain ⟨s, hs, rfl⟩ : ∃ s : Nat, s ≤ nt ∧ x = nI s := by
    rw [a2] at hx
    have z1 := Int32.le_iff_toInt_le.mp hx.2
    have z2 : ¬ x.toInt < 0 := fun z => hx.1 (Int32.lt_iff_toInt_lt.mpr (by have : (0 : Int32).toInt = 0 := by decide
                                                                            omega))
    have z3 : (nI nt).toInt = nt := Int32.toInt_ofNat_of_lt (by omega)
    refine ⟨x.toInt.toNat, by omega, Int32.toInt_inj.mp ?_⟩
    have : (nI x.toInt.toNat).toInt = x.toInt.toNat := Int32.toInt_ofNat_of_lt (by omega)
    omega
  have hq0 : Aq false (34 - t) (xu P 16 0 (34 - t + 1)) := ⟨h1.2.1.xb hb16 _, (xu_ne (by omega)).trans h1.2.2.2.1, fun c => absurd c (by decide)⟩
  have hqP : Aq false (34 - t) P := ⟨h1.2.1, h1.2.2.2.1, fun c => absurd c (by decide)⟩
  have hbK : jB (kC (34 - t) (xu I 0 1 0)) := fun k => by
    simp only [kC]
    rw [if_neg (by omega), if_neg (by omega), if_pos (by omega), xu_ne (by omega), xu_ne (by omega), xu_ne (by omega)]
    exact a6 k
  have htb : tbR (kC (34 - t) (xu I 0 1 0) 1) (I 348) s := by
    have e : kC (34 - t) (xu I 0 1 0) 1 = I 1 := funext fun k => by
      simp only [kC]
      rw [if_neg (by omega), xu_ne (by omega)]
    rw [e]
    exact a4.cut hs
  obtain ⟨K3, M1, M2, i, p, b1, b2, b3, b4, b5⟩ := start_R (s := s) (K := kC (34 - t) (xu I 0 1 0)) (M := I) (by omega) hbK htb a5
  obtain ⟨d, rfl⟩ : ∃ d, n = d + 1 := ⟨n - 1, by omega⟩
  have hbg := b1 E ex (34 - t) (xu I 0 1 0) J P d (by omega) ht2.1 hE hqP
  rw [uC_id ht2.1] at hbg
  have hxC : nI s ≤ I 0 1 := hx.2
  have hxR : nI s ≤ I 347 1 := by rw [a3, ← a2]; exact hx.2
  rcases lines_R (nI s) (s + 1) K3 M2 i p 0 0 0 0 0 (by omega) b4 (Nat.zero_le _) with ⟨k', K', M', c1, c2, c3, c4, c5⟩ | ⟨k', K', M', i', p', np', nd', nc', q', ln', c1, c2, c3, c4⟩
  · obtain ⟨P', g1, g2⟩ := ctx_f (E := E) (ex := ex) (I := I) (J := J) (P := P) hE ht2.1 (by omega) hxC hq0 h1.2.1 (d := d) (by omega) hbg c1
    have hI1 : uR I (uC (34 - t) K' (xu (xu (xu I 0 1 0) 0 2 (K' 2 4)) 0 3 (K' 2 5))) = uC (34 - t) K' (xu (xu (xu I 0 1 0) 0 2 (K' 2 4)) 0 3 (K' 2 5)) := uR_eq (fun a k z1 z2 => (uC_o (by omega) (by omega) k).trans ((xu_ne (by omega)).trans ((xu_ne (by omega)).trans (xu_ne (by omega)))))
    have hPk : Pok P' := (h1.2.1.xb hb16 _).pk g1
    have g3 := rtx_f (M := I) (show s ≤ 700 by omega) hxR b2 b3 c2 E ex (uC (34 - t) K' (xu (xu (xu I 0 1 0) 0 2 (K' 2 4)) 0 3 (K' 2 5))) J P' (d + 1) (by omega) hPk
    rw [hI1] at g3
    exact ⟨_, _, _, _, _, _, g2, g3, t, np, q, nn, m, s0, kb, u, sn, text_f h c3 c4 (b5.tr c5) g1⟩
  · obtain ⟨P', g1, g2⟩ := ctx_s (E := E) (ex := ex) (I := I) (J := J) (P := P) hE ht2.1 (by omega) hxC hq0 h1.2.1 (d := d) (by omega) hbg h1.1 h1.2.2.1 c1
    have hPk : Pok P' := (h1.2.1.xb hb16 _).pk g1
    have hP2 := ((((hPk.x05 (34 - t + 1)).x22 (t + 1)).xb hb44 (34 - t + 1)).xb hb56 (34 - t + 1))
    obtain ⟨A, hA⟩ : ∃ A, A = uC (34 - t) K' (xu (xu (xu I 0 1 0) 0 2 (K' 2 4)) 0 3 (K' 2 5)) := ⟨_, rfl⟩
    rw [← hA] at g2
    obtain ⟨I1, hI1⟩ : ∃ I1, I1 = xu (xu (xu (xu (wB (wB A 44 (vB A 16)) 56 (vB A 16)) 0 9 0) 0 13 0) 93 4 0) 93 5 (-1) := ⟨_, rfl⟩
    rw [← hI1] at g2
    have hz : zP (34 - t) (xu (xu (xu (xu P' 0 5 (34 - t + 1)) 2 2 (t + 1)) 44 0 (34 - t + 1)) 56 0 (34 - t + 1)) := ⟨ht2.1, hP2, (xu_ne (by omega)).trans ((xu_ne (by omega)).trans ((xu_ne (by omega)).trans (xu_s _ _ _ _))), by rw [ht2.2]; exact (xu_ne (by omega)).trans ((xu_ne (by omega)).trans (xu_s _ _ _ _)), (xu_ne (by omega)).trans (xu_s _ _ _ _), xu_s _ _ _ _⟩
    have eo : ∀ a k, 347 ≤ a → A a k = I a k := fun a k z => by
      rw [hA]
      exact (uC_o (by omega) (by omega) k).trans ((xu_ne (by omega)).trans ((xu_ne (by omega)).trans (xu_ne (by omega))))
    have e1 : ∀ a k, ¬ ((44 ≤ a ∧ a ≤ 67) ∨ (a = 0 ∧ (k = 9 ∨ k = 13)) ∨ (a = 93 ∧ (k = 4 ∨ k = 5))) → I1 a k = A a k := fun a k z => by
      rw [hI1]
      rw [xu_ne (by omega), xu_ne (by omega), xu_ne (by omega), xu_ne (by omega), wB_o _ _ _ (by omega), wB_o _ _ _ (by omega)]
    have hu : uR I I1 = I1 := uR_eq (fun a k z1 z2 => (e1 a k (by omega)).trans (eo a k z1))
    have lf := b5.tr c4
    have pM : Pt M' := h7.2.2.2.2.2.c (fun k => (lf.1 387 k (by omega)).trans ((xu_ne (by omega)).trans (xu_ne (by omega))))
    have jz : jZ M' := lf.2 (fun k => by
      rw [xu_ne (by omega), xu_ne (by omega), xu_ne (by omega), xu_ne (by omega), xu_ne (by omega), xu_ne (by omega), xu_ne (by omega), xu_ne (by omega)]
      exact a7 k)
    obtain ⟨J', g3⟩ := rtx_s (E := E) (ex := ex) (M := I) (I := I1) (J := J) (P := (xu (xu (xu (xu P' 0 5 (34 - t + 1)) 2 2 (t + 1)) 44 0 (34 - t + 1)) 56 0 (34 - t + 1))) hP2 (show s ≤ 700 by omega) hxR b2 b3 c2 (fun l hl => by
      rcases c3.2.2.2.2.2.2.1.2.2.2.2.2 l hl with ⟨-, z⟩ | ⟨z, -⟩
      · exact Or.inl z
      · exact Or.inr z) c3.2.2.2.1.1 c3.2.2.2.1.2.2.2.1 (fun j => (jz j).2.2.1) pM (n := d + 1) (by omega)
    rw [hu] at g3
    have hln : K' 500 10 = nI ln' := c3.2.2.2.2.2.1.1
    rw [hln] at g2
    obtain ⟨B, hB⟩ : ∃ B, B = uR (kpP 372 M') I1 := ⟨_, rfl⟩
    rw [← hB] at g3
    obtain ⟨C2, hC2⟩ : ∃ C2, C2 = wE (xu (xu (xu (xu (rPl B) 347 76 0) 347 77 (-1)) 347 83 0) 347 85 0) (M' 347 52) := ⟨_, rfl⟩
    rw [← hC2] at g3
    have eB : ∀ a k, 347 ≤ a → a ≤ 403 → B a k = kpP 372 M' a k := fun a k z1 z2 => by rw [hB]; exact uR_r ⟨z1, z2⟩ k
    have eB1 : ∀ a k, ¬ (347 ≤ a ∧ a ≤ 403) → B a k = I1 a k := fun a k z => by rw [hB]; simp only [uR]; rw [if_neg z]
    have eC : ∀ a k, a ≠ 347 → C2 a k = B a k := fun a k z => by
      rw [hC2, wE_o _ _ z, xu_ne (by omega), xu_ne (by omega), xu_ne (by omega), xu_ne (by omega), rPl_o z]
    have eC1 : ∀ k, ¬ (k = 52 ∨ k = 69 ∨ k = 70 ∨ k = 71 ∨ k = 76 ∨ k = 77 ∨ k = 83 ∨ k = 85) → C2 347 k = B 347 k := fun k z => by
      rw [hC2, wE_f _ _ (by omega), xu_ne (by omega), xu_ne (by omega), xu_ne (by omega), xu_ne (by omega), rPl_k (by omega) (by omega) (by omega)]
    have w0 : ∀ a k, ¬ (376 ≤ a ∧ a ≤ 390) → wR C2 0 (aT B 0 nd' (vR B 0)) a k = C2 a k := fun a k z => w0_o C2 _ (fun y => z y.1)
    refine ⟨_, _, _, _, _, _, g2, g3, 34 - t, np', nd', nd', nc', 0, 0, 0, sn, ?_⟩
    have eA0 : ∀ k, A 0 k = xu (xu (xu I 0 1 0) 0 2 (K' 2 4)) 0 3 (K' 2 5) 0 k := fun k => by rw [hA]; exact uC_o (by omega) (by omega) k
    refine text_s (I1 := I1) (B := B) (C2 := C2) h c3 lf hz (fun a k z => ?_) (fun a k z => ?_) (fun k z => ?_) ⟨?_, ?_, ?_, ?_⟩ rfl (fun a k z1 z2 => ?_) eB ⟨?_, ?_, ?_, ?_, ?_, ?_, ?_, ?_⟩ (fun j k hj => ?_) (fun k => ⟨?_, ?_⟩) (fun k => ?_) (fun b hb => ⟨fun f k z1 z2 z3 => ?_, fun f z1 z2 => ?_, fun f k z1 z2 z3 => ?_⟩)
    · exact (w0 a k (by omega)).trans ((eC a k (by omega)).trans (eB1 a k (by omega)))
    · exact (w0 a k (by omega)).trans ((eC a k (by omega)).trans (eB a k (by omega) (by omega)))
    · exact (w0 347 k (by omega)).trans ((eC1 k z).trans (eB 347 k (by omega) (by omega)))
    · rw [w0 347 76 (by omega), hC2, wE_f _ _ (by omega), xu_ne (by omega), xu_ne (by omega), xu_ne (by omega), xu_s]
    · rw [w0 347 77 (by omega), hC2, wE_f _ _ (by omega), xu_ne (by omega), xu_ne (by omega), xu_s]
    · rw [w0 347 83 (by omega), hC2, wE_f _ _ (by omega), xu_ne (by omega), xu_s]
    · rw [w0 347 85 (by omega), hC2, wE_f _ _ (by omega), xu_s]
    · exact (eC a k (by omega)).trans ((eB a k (by omega) (by omega)).trans (kp_o M' (by omega)))
    · rw [e1 0 1 (by omega), eA0, xu_ne (by omega), xu_ne (by omega), xu_s]
    · rw [e1 0 2 (by omega), eA0, xu_ne (by omega), xu_s]
    · rw [e1 0 3 (by omega), eA0, xu_s]
    · rw [hI1, xu_ne (by omega), xu_ne (by omega), xu_ne (by omega), xu_s]
    · rw [hI1, xu_ne (by omega), xu_ne (by omega), xu_s]
    · rw [e1 0 12 (by omega), eA0, xu_ne (by omega), xu_ne (by omega), xu_ne (by omega)]
    · rw [hI1, xu_ne (by omega), xu_s]
    · rw [hI1, xu_s]
    · rw [e1 (34 - t + j) k (by omega), hA, uC_t hj]
    · rw [e1 19 k (by omega), hA, uC_c ht2.1 (by decide)]
    · rw [e1 20 k (by omega), hA, uC_c ht2.1 (by decide)]
    · rw [e1 (t + 4) k (by omega), hA, uC_o (by omega) (by omega), xu_ne (by omega), xu_ne (by omega), xu_ne (by omega)]
    · have v : vB A 16 f k = K' (16 + f) k := by
        simp only [vB]
        rw [if_pos z2, hA, uC_c ht2.1 (by omega)]
      rw [hI1, xu_ne (by omega), xu_ne (by omega), xu_ne (by omega), xu_ne (by omega)]
      rcases hb with rfl | rfl
      · rw [wB_o _ _ _ (by omega), wB_a _ 44 _ (by omega) z2 z3, v]
      · rw [wB_a _ 56 _ (by omega) z2 z3, v]
    · have v : vB A 16 f 0 = K' 16 f := by
        simp only [vB]
        rw [if_neg (by omega), hA, uC_c ht2.1 (by decide)]
      rw [hI1, xu_ne (by omega), xu_ne (by omega), xu_ne (by omega), xu_ne (by omega)]
      rcases hb with rfl | rfl
      · rw [wB_o _ _ _ (by omega), wB_i _ 44 _ ⟨z1, z2⟩, v]
      · rw [wB_i _ 56 _ ⟨z1, z2⟩, v]
    · have v : A (b + f) k = I (b + f) k := by
        rw [hA]
        exact (uC_o (by omega) (by omega) k).trans ((xu_ne (by omega)).trans ((xu_ne (by omega)).trans (xu_ne (by omega))))
      rw [hI1, xu_ne (by omega), xu_ne (by omega), xu_ne (by omega), xu_ne (by omega)]
      rcases hb with rfl | rfl
      · rw [wB_o _ _ _ (by omega), wB_l _ 44 _ z1 z2 z3, v]
      · rw [wB_l _ 56 _ z1 z2 z3, wB_o _ _ _ (by omega), v]
