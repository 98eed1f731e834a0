/-! acts: forgive, pay, cross -/
theorem vR_c {I I' : Nat → Nat → Int32} (e : ∀ a k, 376 ≤ a → a ≤ 390 → I' a k = I a k) : vR I' 0 = vR I 0 := by
  funext f k
  unfold vR
  rw [e 376 _ (by omega) (by omega), e 377 _ (by omega) (by omega), e 379 _ (by omega) (by omega), e 380 _ (by omega) (by omega), e 381 _ (by omega) (by omega), e 382 _ (by omega) (by omega), e 383 _ (by omega) (by omega), e 384 _ (by omega) (by omega), e 385 _ (by omega) (by omega), e 386 _ (by omega) (by omega), e 388 _ (by omega) (by omega), e 378 _ (by omega) (by omega), e 389 _ (by omega) (by omega), e 390 _ (by omega) (by omega), show (fun j => I' 387 (12 * 0 + j)) = (fun j => I 387 (12 * 0 + j)) from funext fun j => e 387 _ (by omega) (by omega)]
theorem vB_wB (I : Nat → Nat → Int32) (b : Nat) (V : Nat → Nat → Int32) : vSm (vB (wB I b V) b) V := by
  refine ⟨fun f k h1 h2 hk => ?_, fun f h1 h2 => ?_⟩
  · show (if f < 12 then _ else _) = _
    rw [if_pos h2]; exact wB_a I b V h1 h2 hk
  · show (if f < 12 then _ else _) = _
    rw [if_neg (by omega)]; exact wB_i I b V ⟨h1, h2⟩
theorem vB_in {I V : Nat → Nat → Int32} {b f : Nat} (h1 : 3 ≤ f) (h2 : f ≤ 10) {c : Nat} (hV : ∀ k, vp_in (V f k) c) (hI : ∀ k, vp_in (I (b + f) k) c) (k : Nat) : vp_in (vB (wB I b V) b f k) c := by
  show vp_in (if f < 12 then _ else _) c
  rw [if_pos (by omega)]
  by_cases hk : k < bl f
  · rw [wB_a I b V (by omega) (by omega) hk]; exact hV k
  · rw [wB_l I b V (by omega) (by omega) hk]; exact hI k
theorem act_e {I V V' : Nat → Nat → Int32} {sn u : Nat} (hs : sn < 20) {a k : Nat} (h : ¬ ((56 ≤ a ∧ a ≤ 67) ∨ (107 + 12 * sn ≤ a ∧ a ≤ 107 + 12 * sn + 11) ∨ (a = 0 ∧ (k = 12 ∨ k = 13)))) : wB (svI I V sn u) 56 V' a k = I a k := by
  rw [wB_o _ _ _ (by omega)]
  unfold svI
  rw [xu_ne (by omega), xu_ne (by omega), wB_o _ _ _ (by omega)]
set_option maxHeartbeats 1000000 in
theorem Rel.act {t np q n m s kb u sn n' : Nat} {I V' W' : Nat → Nat → Int32} {P : Nat → Nat → Nat} {e' : Int32} (h : Rel t np q n m s kb u sn I P) (hnn : n ≤ n') (hg : vG np q n' V' (vB I 44)) (hE : vE np n' m V' W') (hK : vK n m (vB I 56) V') (hw : ∀ k, k < 12 → vp_in (W' 3 k) 6 ∧ vp_in (W' 4 k) 6 ∧ (W' 10 k < 0 ∨ vp_in (W' 10 k) 12) ∧ in0 (W' 6 k) 0 198) : RX (wR (wE (rRem (xu (wB (svI I (vB I 56) sn u) 56 V') 347 2 0) (vR I 0) u) e') 0 W') (xu P (107 + 12 * sn) 0 (t + 1)) := by
  obtain ⟨h1, h2, h3, h4, h5, h6, h7, h8, h9, h10⟩ := h
  have ht := tl_c h1.1
  have hs := h9.2.1
  have hu20 := h9.1
  obtain ⟨u1, o, hu⟩ : ∃ u1 o, (u = 20 ∧ u1 = 19 ∧ o = 1) ∨ (u < 20 ∧ u1 = u ∧ o = 0) := by
    by_cases z : u = 20
    · exact ⟨19, 1, Or.inl ⟨z, rfl, rfl⟩⟩
    · exact ⟨u, 0, Or.inr ⟨by omega, rfl, rfl⟩⟩
  have hmin : min 20 (u + 1) = u1 + 1 := by omega
  generalize eI1 : wB (svI I (vB I 56) sn u) 56 V' = I1
  generalize eI2 : wR (wE (rRem (xu I1 347 2 0) (vR I 0) u) e') 0 W' = I2
  have c0 : ∀ a k, ¬ (376 ≤ a ∧ a ≤ 390) → ¬ (a = 347 ∧ k = 52) → I2 a k = rRem (xu I1 347 2 0) (vR I 0) u a k := fun a k z1 z2 => by
    rw [← eI2, w0_o _ _ (fun z => z1 z.1)]
    exact xu_ne z2
  have c1 : ∀ a k, ¬ (376 ≤ a ∧ a ≤ 390) → ¬ (a = 347 ∧ (k = 2 ∨ k = 52 ∨ k = 83)) → a ≠ 400 → I2 a k = I1 a k := fun a k z1 z2 z3 => (c0 a k z1 (by omega)).trans ((rRem_o z3 (by omega)).trans (xu_ne (by omega)))
  have c2 : ∀ a k, ¬ ((56 ≤ a ∧ a ≤ 67) ∨ (107 + 12 * sn ≤ a ∧ a ≤ 107 + 12 * sn + 11) ∨ (a = 0 ∧ (k = 12 ∨ k = 13))) → I1 a k = I a k := fun a k z => by rw [← eI1]; exact act_e hs z
  have e : ∀ a k, ¬ ((56 ≤ a ∧ a ≤ 67) ∨ (107 + 12 * sn ≤ a ∧ a ≤ 107 + 12 * sn + 11) ∨ (a = 0 ∧ (k = 12 ∨ k = 13)) ∨ (376 ≤ a ∧ a ≤ 390) ∨ (a = 347 ∧ (k = 2 ∨ k = 52 ∨ k = 83)) ∨ a = 400) → I2 a k = I a k := fun a k z => (c1 a k (by omega) (by omega) (by omega)).trans (c2 a k (by omega))
  have b56 : vB I2 56 = vB I1 56 := vB_c (fun a k z1 z2 => c1 a k (by omega) (by omega) (by omega))
  have b44 : vB I2 44 = vB I 44 := vB_c (fun a k z1 z2 => e a k (by omega))
  have sl : ∀ a k, 107 + 12 * sn ≤ a → a ≤ 107 + 12 * sn + 11 → I2 a k = wB I (107 + 12 * sn) (vB I 56) a k := fun a k z1 z2 => by
    rw [c1 a k (by omega) (by omega) (by omega), ← eI1, wB_o _ _ _ (by omega)]
    unfold svI
    rw [xu_ne (by omega), xu_ne (by omega)]
  have bsl : vB I2 (107 + 12 * sn) = vB (wB I (107 + 12 * sn) (vB I 56)) (107 + 12 * sn) := vB_c (fun a k z1 z2 => sl a k z1 z2)
  have v56 : vSm (vB I2 56) V' := by rw [b56, ← eI1]; exact vB_wB _ _ _
  have kk : vK n m (vB I 56) (vB I2 56) := by
    have n12 := hg.1.1
    have m8 := h4.1
    refine ⟨fun k hk => ?_, fun k hk => ?_, ?_, ?_⟩
    · have z := hK.1 k hk
      exact ⟨(v56.a (by omega) (by omega) (by omega)).trans z.1, (v56.a (by omega) (by omega) (by omega)).trans z.2.1, (v56.a (by omega) (by omega) (by omega)).trans z.2.2.1, (v56.a (by omega) (by omega) (by omega)).trans z.2.2.2.1, (v56.a (by omega) (by omega) (by omega)).trans z.2.2.2.2.1, (v56.a (by omega) (by omega) (by omega)).trans z.2.2.2.2.2⟩
    · exact (v56.1 11 k (by omega) (by omega) (by show k < 8; omega)).trans (hK.2.1 k hk)
    · exact (v56.2 12 (by omega) (by omega)).trans hK.2.2.1
    · exact (v56.2 15 (by omega) (by omega)).trans hK.2.2.2
  have i3 : ∀ k, vp_in (vB I2 56 3 k) 6 := by
    rw [b56, ← eI1]
    refine vB_in (by omega) (by omega) hg.1.2.2.1 (fun k => ?_)
    show vp_in (svI I (vB I 56) sn u 59 k) 6
    unfold svI
    rw [xu_ne (by omega), xu_ne (by omega), wB_o _ _ _ (by omega)]
    exact h7.1.1.2.2.1 k
  have i4 : ∀ k, vp_in (vB I2 56 4 k) 6 := by
    rw [b56, ← eI1]
    refine vB_in (by omega) (by omega) hg.1.2.2.2 (fun k => ?_)
    show vp_in (svI I (vB I 56) sn u 60 k) 6
    unfold svI
    rw [xu_ne (by omega), xu_ne (by omega), wB_o _ _ _ (by omega)]
    exact h7.1.1.2.2.2 k
  have cC : ∀ a k, 376 ≤ a → a ≤ 390 → wE (rRem (xu I1 347 2 0) (vR I 0) u) e' a k = I a k := fun a k z1 z2 => by
    unfold wE
    rw [xu_ne (by omega), rRem_o (by omega) (by omega), xu_ne (by omega), c2 a k (by omega)]
  obtain ⟨r1, r2, r3, r4, r5⟩ := rRem_r (xu I1 347 2 0) (vR I 0) hu
  have r0 : ∀ j, I2 400 j = rRem (xu I1 347 2 0) (vR I 0) u 400 j := fun j => c0 400 j (by omega) (by omega)
  refine ⟨t, np, q, n', m, s, kb, u1 + 1, (sn + 1) % 20, ⟨h1.1, h1.2.1.xb (sv_b sn hs) _, ?_, ?_, ?_, ?_⟩, h2.c (fun a k z => e a k (by omega)), h3.c (fun a k z => e a k (by omega)), h4.c (fun a k z => e a k (by omega)), h5.c (fun a k z => e a k (by omega)), h6.c (fun a k z => e a k (by omega)) h3.1, ?_, h8.c (fun a k z => e a k (by omega)), ?_, h10.c (fun a k z => e a k (by omega)) (xu_ne (by omega))⟩
  · exact (xu_ne (by omega)).trans h1.2.2.1
  · exact (xu_ne (by omega)).trans h1.2.2.2.1
  · exact (xu_ne (by omega)).trans h1.2.2.2.2.1
  · exact (xu_ne (by omega)).trans h1.2.2.2.2.2
  · refine zN.mk' eI2.symm ?_ v56 i3 i4 (by rw [b44]; exact hg) h3.1 h4.1 hE hw (fun k => ?_)
    · exact h7.2.2.2.2.2.c (fun k => cC 387 k (by omega) (by omega))
    · rw [cC 379 k (by omega) (by omega), cC 380 k (by omega) (by omega)]; exact ⟨h7.2.2.1 k, h7.2.2.2.1 k⟩
  · have np6 := h3.1
    have n12 := h7.1.1.1
    have vv := h7.2.1
    refine h9.push h3.1 h7.1.1.1 hu ?_ ?_ ?_ (fun i k hi hk => ?_) (fun a k z => e a k (by omega)) (fun b z1 z2 z3 => xu_ne (by omega)) (xu_s _ _ _ _) hnn kk (Vn := vB I 56) (by rw [bsl]; exact vB_wB _ _ _) ⟨by rw [b44]; exact h7.1, hnn, fun k hk => ?_, fun k hk => ?_, fun k hk => ?_, ?_, fun k hk => ?_, ?_, ?_⟩
    · rw [c1 0 12 (by omega) (by omega) (by omega), ← eI1, wB_o _ _ _ (by omega)]
      exact (xu_ne (by omega)).trans (xu_s _ _ _ _)
    · rw [c1 0 13 (by omega) (by omega) (by omega), ← eI1, wB_o _ _ _ (by omega), ← hmin]
      exact xu_s _ _ _ _
    · rw [c0 347 83 (by omega) (by omega)]; exact r5
    · rw [r0, r1 i k hi hk, xu_ne (by omega), c2 400 _ (by omega)]
    · rw [r0, r0, (r2 k (by omega)).1, (r2 k (by omega)).2]; exact vv.1 k hk
    · have z := kk.1 k hk
      have w := vv.2.1 k hk
      rw [r0, r0, (r3 k (by omega)).1, (r3 k (by omega)).2]
      exact ⟨w.2.2.2.2.2.2.1, w.2.2.2.2.2.2.2.1, z.1.symm, z.2.1.symm, z.2.2.1.symm, z.2.2.2.1.symm, z.2.2.2.2.1.symm, z.2.2.2.2.2.symm⟩
    · rw [r0, (r3 k hk).2]
      have := (h7.2.2.2.2.1 k hk).1
      show I 386 (12 * 0 + k) < 0 ∨ vp_in (I 386 (12 * 0 + k)) 12
      rw [Nat.mul_zero, Nat.zero_add]; exact this
    · rw [r0, r4, ← vv.2.2.2.1]; exact h7.1.1.2.1
    · exact (kk.2.1 k hk).symm
    · exact kk.2.2.1.symm
    · exact kk.2.2.2.symm
/-- an act that is done on both sides -/
theorem Cl.act {E : xCl} {ex : Bool} {t np q n m s kb u sn n' N : Nat} {I V' W' : Nat → Nat → Int32} {J J1 J2 : Nat → Nat → Int64} {P : Nat → Nat → Nat} {yC yR : MethodName} {vC vR' : List Value} {r : Value} {e' : Int32} (h : Rel t np q n m s kb u sn I P) (hnn : n ≤ n') (hg : vG np q n' V' (vB I 44)) (hE : vE np n' m V' W') (hK : vK n m (vB I 56) V') (hw : ∀ k, k < 12 → vp_in (W' 3 k) 6 ∧ vp_in (W' 4 k) 6 ∧ (W' 10 k < 0 ∨ vp_in (W' 10 k) 12) ∧ in0 (W' 6 k) 0 198) (hc : xEx E ex N yC vC (SH, I, J, P) (some r) (SH, wB (svI I (vB I 56) sn u) 56 V', J1, xu P (107 + 12 * sn) 0 (t + 1))) (hr : xEx E ex N yR vR' (SH, wR (wE (wB (svI I (vB I 56) sn u) 56 V') (I 347 52)) 0 (vR I 0), J1, xu P (107 + 12 * sn) 0 (t + 1)) (some r) (SH, wR (wE (rRem (xu (wB (svI I (vB I 56) sn u) 56 V') 347 2 0) (vR I 0) u) e') 0 W', J2, xu P (107 + 12 * sn) 0 (t + 1))) : ∃ r I1 J1 P1 I2 J2, xEx E ex N yC vC (SH, I, J, P) (some r) (SH, I1, J1, P1) ∧ xEx E ex N yR vR' (SH, I1, J1, P1) (some r) (SH, I2, J2, P1) ∧ RX I2 P1 := by
  have hs := h.2.2.2.2.2.2.2.2.1.2.1
  have e : ∀ a k, 347 ≤ a → wB (svI I (vB I 56) sn u) 56 V' a k = I a k := fun a k z => act_e hs (by omega)
  have hp : Pt (wB (svI I (vB I 56) sn u) 56 V') := h.2.2.2.2.2.2.1.2.2.2.2.2.c (fun k => e 387 k (by omega))
  have := preR hp
  rw [e 347 52 (by omega), vR_c (fun a k z1 z2 => e a k (by omega))] at this
  rw [this] at hr
  exact ⟨r, _, J1, _, _, J2, hc, hr, h.act hnn hg hE hK hw⟩
theorem vG.act {np q n : Nat} {V V' VF : Nat → Nat → Int32} (h : vG np q n V VF) (e : ∀ f k, f ≠ 1 → f ≠ 2 → f ≠ 9 → f ≠ 10 → V' f k = V f k) (ht : Tok V' n) (h9 : ∀ j, j < n → V' 9 j = 0 → V 9 j = 0) : vG np q n V' VF := by
  obtain ⟨⟨v1, v2, v3, v4⟩, g2, g3, g4, g5, g6, g7, g8, g9⟩ := h
  have e' : ∀ f k, (f = 3 ∨ f = 4 ∨ f = 5 ∨ f = 6 ∨ f = 7 ∨ f = 8 ∨ 11 ≤ f) → V' f k = V f k := fun f k z => e f k (by omega) (by omega) (by omega) (by omega)
  refine ⟨⟨v1, (e' 13 0 (by omega)).trans v2, fun k => ?_, fun k => ?_⟩, g2, ht, fun j hj => ?_, fun j hj z => ?_, fun j hj => ?_, ?_, ?_, ?_⟩
  · rw [e' 3 k (by omega)]; exact v3 k
  · rw [e' 4 k (by omega)]; exact v4 k
  · rw [e' 3 j (by omega), e' 4 j (by omega)]; exact g4 j hj
  · rw [e' 5 j (by omega), e' 6 j (by omega)]; exact g5 j hj (h9 j hj z)
  · rw [e' 3 j (by omega), e' 4 j (by omega), e' 7 j (by omega), e' 8 j (by omega)]; exact g6 j hj
  · rw [e' 12 0 (by omega)]; exact g7
  · rw [e' 14 0 (by omega)]; exact g8
  · rw [e' 15 0 (by omega)]; exact g9
theorem vK.act {n m : Nat} {V V' : Nat → Nat → Int32} (e : ∀ f k, f ≠ 1 → f ≠ 2 → f ≠ 9 → f ≠ 10 → V' f k = V f k) : vK n m V V' := by
  have e' : ∀ f k, (f = 3 ∨ f = 4 ∨ f = 5 ∨ f = 6 ∨ f = 7 ∨ f = 8 ∨ 11 ≤ f) → V' f k = V f k := fun f k z => e f k (by omega) (by omega) (by omega) (by omega)
  exact ⟨fun k _ => ⟨e' 3 k (by omega), e' 4 k (by omega), e' 5 k (by omega), e' 6 k (by omega), e' 7 k (by omega), e' 8 k (by omega)⟩, fun k _ => e' 11 k (by omega), e' 12 0 (by omega), e' 15 0 (by omega)⟩
theorem zN.w {np q n m : Nat} {I W' : Nat → Nat → Int32} (h : zN np q n m I) (e : ∀ f k, f ≠ 1 → f ≠ 2 → f ≠ 9 → f ≠ 10 → W' f k = vR I 0 f k) (h10 : ∀ k, k < 12 → W' 10 k < 0 ∨ vp_in (W' 10 k) 12) : ∀ k, k < 12 → vp_in (W' 3 k) 6 ∧ vp_in (W' 4 k) 6 ∧ (W' 10 k < 0 ∨ vp_in (W' 10 k) 12) ∧ in0 (W' 6 k) 0 198 := fun k hk => by
  rw [e 3 k (by omega) (by omega) (by omega) (by omega), e 4 k (by omega) (by omega) (by omega) (by omega), e 6 k (by omega) (by omega) (by omega) (by omega)]
  refine ⟨h.2.2.1 k, h.2.2.2.1 k, h10 k hk, ?_⟩
  have := (h.2.2.2.2.1 k hk).2
  show in0 (I 384 (12 * 0 + k)) 0 198
  rw [Nat.mul_zero, Nat.zero_add]; exact this
theorem zN.t12 {np q n m : Nat} {I : Nat → Nat → Int32} (h : zN np q n m I) : T12 (vR I 0) := fun k hk => by
  have := (h.2.2.2.2.1 k hk).1
  show I 386 (12 * 0 + k) < 0 ∨ vp_in (I 386 (12 * 0 + k)) 12
  rw [Nat.mul_zero, Nat.zero_add]; exact this
theorem forgive_Cl {E : xCl} {ex : Bool} (x : Int32) : Cl E ex yX10_forgive [.ref 0, .int x] yX11_forgive [.ref 347, .int x] := by
  intro I J P hX N hN
  obtain ⟨t, np, q, n, m, s, kb, u, sn, h⟩ := hX
  have h1 := h.1
  have h7 := h.2.2.2.2.2.2.1
  have h9 := h.2.2.2.2.2.2.2.2.1
  have hp := h7.2.2.2.2.2
  by_cases c : sTh (vB I 56) x
  · obtain ⟨j, hj, rfl⟩ := h7.1.1.lt c.1
    have cc := k_forgive_t (E := E) (ex := ex) (I := I) (V := vB I 56) (J := J) h1.2.1 h1.1 h1.2.2.1 h1.2.2.2.2.2 h9.2.1 h9.2.2.2.1 h9.1 h9.2.2.1 c 0
    rw [wB_vB, h7.1.1.c hj] at cc
    have rr := k_rforgive_t (E := E) (ex := ex) (I := wB (svI I (vB I 56) sn u) 56 (xu (vB I 56) 9 j 2)) (V := vR I 0) (e := I 347 52) (J := J) (h1.2.1.xb (sv_b sn h9.2.1) (t + 1)) rfl h7.rv.1 h9.1 ((xu_ne (by omega)).trans ((act_e h9.2.1 (by have := h9.2.1; omega)).trans h9.2.2.2.2.1)) ((h7.2.1.th h7.1.1 _).mp c) 0
    rw [h7.1.1.c hj] at rr
    refine Cl.act h (Nat.le_refl n) (h7.1.act (fun f k _ _ z _ => xu_f _ _ z) (h7.1.2.2.1.xu (by decide)) (fun j2 _ z => ?_)) (h7.2.1.x1 (by decide)) (vK.act (fun f k _ _ z _ => xu_f _ _ z)) (h7.w (fun f k _ _ z _ => xu_f _ _ z) (fun k hk => ?_)) (x_le (by omega) cc) (x_le (by omega) rr)
    · by_cases z2 : j2 = j
      · subst z2; exact absurd z (by rw [xu_s]; decide)
      · rw [xu_ne (by omega)] at z; exact z
    · rw [xu_f _ _ (by decide)]; exact h7.t12 k hk
  · have cc := k_forgive_f (E := E) (ex := ex) (I := I) (V := vB I 56) (J := J) h1.2.1 h1.1 h1.2.2.1 h1.2.2.2.2.2 c 0
    rw [wB_vB] at cc
    have rr := k_rforgive_f (E := E) (ex := ex) (I := I) (V := vR I 0) (e := I 347 52) (J := J) h1.2.1 rfl h7.rv.1 (fun z => c ((h7.2.1.th h7.1.1 _).mpr z)) 0
    rw [preR hp, postR hp] at rr
    exact Cl.ro h (x_le (by omega) cc) (x_le (by omega) rr)
theorem sPay_o (V : Nat → Nat → Int32) (j : Nat) {f k : Nat} (h1 : f ≠ 1) (h9 : ¬ (f = 9 ∧ k = j)) : sPay V j f k = V f k := by
  unfold sPay sMv
  rw [xu_ne h9, xu_f _ _ h1, xu_f _ _ h1]
theorem pay_Cl {E : xCl} {ex : Bool} (x : Int32) : Cl E ex yX10_pay [.ref 0, .int x] yX11_pay [.ref 347, .int x] := by
  intro I J P hX N hN
  obtain ⟨t, np, q, n, m, s, kb, u, sn, h⟩ := hX
  have h1 := h.1
  have h7 := h.2.2.2.2.2.2.1
  have h9 := h.2.2.2.2.2.2.2.2.1
  have hp := h7.2.2.2.2.2
  by_cases c : sCan (vB I 56) x
  · obtain ⟨j, hj, rfl⟩ := h7.1.1.lt c.1.1
    have cc := k_pay_t (E := E) (ex := ex) (I := I) (V := vB I 56) (J := J) h1.2.1 h1.1 h1.2.2.1 h1.2.2.2.2.2 h9.2.1 h9.2.2.2.1 h9.1 h9.2.2.1 h7.1.1 c 0
    rw [wB_vB, h7.1.1.c hj] at cc
    have rr := k_rpay_t (E := E) (ex := ex) (I := wB (svI I (vB I 56) sn u) 56 (sPay (vB I 56) j)) (V := vR I 0) (e := I 347 52) (J := J) (h1.2.1.xb (sv_b sn h9.2.1) (t + 1)) rfl h7.rv.1 h9.1 ((xu_ne (by omega)).trans ((act_e h9.2.1 (by have := h9.2.1; omega)).trans h9.2.2.2.2.1)) ((h7.2.1.can h7.1.1 h7.1.2.2.2.1 hj).mp c) 0
    rw [h7.1.1.c hj] at rr
    refine Cl.act h (Nat.le_refl n) (h7.1.act (fun f k z1 _ z _ => sPay_o _ _ z1 (by omega)) (h7.1.2.2.1.pay j) (fun j2 _ z => ?_)) (h7.2.1.pay h7.1.2.2.2.1 hj) (vK.act (fun f k z1 _ z _ => sPay_o _ _ z1 (by omega))) (h7.w (fun f k z1 _ z _ => sPay_o _ _ z1 (by omega)) (fun k hk => ?_)) (x_le (by omega) cc) (x_le (by omega) rr)
    · by_cases z2 : j2 = j
      · subst z2; exact absurd z (by unfold sPay; rw [xu_s]; decide)
      · rw [sPay_o _ _ (by decide) (by omega)] at z; exact z
    · rw [sPay_o _ _ (by decide) (by omega)]; exact h7.t12 k hk
  · have cc := k_pay_f (E := E) (ex := ex) (I := I) (V := vB I 56) (J := J) h1.2.1 h1.1 h1.2.2.1 h1.2.2.2.2.2 h7.1.1 c 0
    rw [wB_vB] at cc
    have rr := k_rpay_f (E := E) (ex := ex) (I := I) (V := vR I 0) (e := I 347 52) (J := J) h1.2.1 rfl h7.rv.1 (x := x) (fun z => c (by
      obtain ⟨j, hj, rfl⟩ := h7.rv.1.lt z.1.1
      exact (h7.2.1.can h7.1.1 h7.1.2.2.2.1 hj).mpr z)) 0
    rw [preR hp, postR hp] at rr
    exact Cl.ro h (x_le (by omega) cc) (x_le (by omega) rr)
