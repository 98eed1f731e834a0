/-! undo, keep, back -/
theorem tT1_v (V : Nat → Nat → Int32) (g : Nat → Int32) (i : Nat) : ∀ p, (∀ k, k < p → tT1 V g i p 1 k = g (i + k) ∧ tT1 V g i p 2 k = g (i + 6 + k)) ∧ ∀ f k, f ≠ 1 → f ≠ 2 → tT1 V g i p f k = V f k
  | 0 => ⟨fun k hk => absurd hk (by omega), fun _ _ _ _ => rfl⟩
  | p + 1 => by
    obtain ⟨ih, io⟩ := tT1_v V g i p
    refine ⟨fun k hk => ?_, fun f k h1 h2 => ?_⟩
    · rw [tT1]
      by_cases e : k = p
      · subst e
        exact ⟨(xu_ne (by omega)).trans (xu_s _ _ _ _), xu_s _ _ _ _⟩
      · have := ih k (by omega)
        exact ⟨(xu_ne (by omega)).trans ((xu_ne (by omega)).trans this.1), (xu_ne (by omega)).trans ((xu_ne (by omega)).trans this.2)⟩
    · rw [tT1, xu_f _ _ h2, xu_f _ _ h1]; exact io f k h1 h2
theorem tT2_v (V : Nat → Nat → Int32) (g : Nat → Int32) (i : Nat) : ∀ p, (∀ k, k < p → tT2 V g i p 9 k = g (i + 12 + k) ∧ tT2 V g i p 10 k = g (i + 24 + k)) ∧ ∀ f k, f ≠ 9 → f ≠ 10 → tT2 V g i p f k = V f k
  | 0 => ⟨fun k hk => absurd hk (by omega), fun _ _ _ _ => rfl⟩
  | p + 1 => by
    obtain ⟨ih, io⟩ := tT2_v V g i p
    refine ⟨fun k hk => ?_, fun f k h1 h2 => ?_⟩
    · rw [tT2]
      by_cases e : k = p
      · subst e
        exact ⟨(xu_ne (by omega)).trans (xu_s _ _ _ _), xu_s _ _ _ _⟩
      · have := ih k (by omega)
        exact ⟨(xu_ne (by omega)).trans ((xu_ne (by omega)).trans this.1), (xu_ne (by omega)).trans ((xu_ne (by omega)).trans this.2)⟩
    · rw [tT2, xu_f _ _ h2, xu_f _ _ h1]; exact io f k h1 h2
theorem tTake_v (V : Nat → Nat → Int32) (g : Nat → Int32) (i : Nat) : (∀ k, k < 6 → tTake V g i 1 k = g (i + k) ∧ tTake V g i 2 k = g (i + 6 + k)) ∧ (∀ k, k < 12 → tTake V g i 9 k = g (i + 12 + k) ∧ tTake V g i 10 k = g (i + 24 + k)) ∧ tTake V g i 13 0 = g (i + 36) ∧ ∀ f k, f ≠ 1 → f ≠ 2 → f ≠ 9 → f ≠ 10 → f ≠ 13 → tTake V g i f k = V f k := by
  obtain ⟨a1, a2⟩ := tT1_v V g i 6
  obtain ⟨b1, b2⟩ := tT2_v (tT1 V g i 6) g i 12
  unfold tTake
  refine ⟨fun k hk => ⟨?_, ?_⟩, fun k hk => ⟨?_, ?_⟩, xu_s _ _ _ _, fun f k z1 z2 z3 z4 z5 => ?_⟩
  · rw [xu_f _ _ (by decide), b2 _ _ (by decide) (by decide)]; exact (a1 k hk).1
  · rw [xu_f _ _ (by decide), b2 _ _ (by decide) (by decide)]; exact (a1 k hk).2
  · rw [xu_f _ _ (by decide)]; exact (b1 k hk).1
  · rw [xu_f _ _ (by decide)]; exact (b1 k hk).2
  · rw [xu_f _ _ z5, b2 _ _ z3 z4, a2 _ _ z1 z2]
/-- now is laid anew, and what is saved changes with it -/
theorem Rel.lay {t np q n m s kb u sn n' u' sn' : Nat} {I I2 : Nat → Nat → Int32} {P : Nat → Nat → Nat} (h : Rel t np q n m s kb u sn I P) (e : ∀ a k, ¬ ((56 ≤ a ∧ a ≤ 67) ∨ (a = 0 ∧ (k = 12 ∨ k = 13)) ∨ (376 ≤ a ∧ a ≤ 390) ∨ (a = 347 ∧ (k = 2 ∨ k = 52 ∨ k = 69 ∨ k = 70 ∨ k = 71 ∨ k = 83))) → I2 a k = I a k) (hN : zN np q n' m I2) (hU : zU t np q n' m u' sn' I2 P) : Rel t np q n' m s kb u' sn' I2 P := by
  obtain ⟨h1, h2, h3, h4, h5, h6, h7, h8, h9, h10⟩ := h
  have ht := tl_c h1.1
  exact ⟨h1, h2.c (fun a k z => e a k (by omega)), h3.c (fun a k z => e a k (by omega)), h4.c (fun a k z => e a k (by omega)), h5.c (fun a k z => e a k (by omega)), h6.c (fun a k z => e a k (by omega)) h3.1, hN, h8.c (fun a k z => e a k (by omega)), hU, h10.c (fun a k z => e a k (by omega)) rfl⟩
/-- the class's and the reference's rows of now, when both are laid anew -/
theorem zN.lay {np q n m n' : Nat} {I C1 C2 V' W' : Nat → Nat → Int32} (h : zN np q n m I) (hnp : np ≤ 6) (hm : m ≤ 8) (e1 : ∀ a k, 44 ≤ a → a ≤ 67 → C1 a k = I a k) (e2 : ∀ a k, ¬ a = 347 → C2 a k = wB C1 56 V' a k) (e3 : ∀ a k, 376 ≤ a → a ≤ 390 → C1 a k = I a k) (hg : vG np q n' V' (vB I 44)) (hE : vE np n' m V' W') (hw : ∀ k, k < 12 → vp_in (W' 3 k) 6 ∧ vp_in (W' 4 k) 6 ∧ (W' 10 k < 0 ∨ vp_in (W' 10 k) 12) ∧ in0 (W' 6 k) 0 198) : zN np q n' m (wR C2 0 W') ∧ vSm (vB (wR C2 0 W') 56) V' := by
  have o : ∀ a k, ¬ (376 ≤ a ∧ a ≤ 390) → wR C2 0 W' a k = C2 a k := fun a k z => w0_o _ _ (fun y => z y.1)
  have b56 : vB (wR C2 0 W') 56 = vB (wB C1 56 V') 56 := vB_c (fun a k z1 z2 => (o a k (by omega)).trans (e2 a k (by omega)))
  have b44 : vB (wR C2 0 W') 44 = vB I 44 := vB_c (fun a k z1 z2 => (o a k (by omega)).trans ((e2 a k (by omega)).trans ((wB_o _ _ _ (by omega) k).trans (e1 a k (by omega) (by omega)))))
  have v56 : vSm (vB (wR C2 0 W') 56) V' := by rw [b56]; exact vB_wB _ _ _
  have c9 : ∀ a k, 376 ≤ a → a ≤ 390 → C2 a k = I a k := fun a k z1 z2 => (e2 a k (by omega)).trans ((wB_o _ _ _ (by omega) k).trans (e3 a k z1 z2))
  refine ⟨zN.mk' rfl (h.2.2.2.2.2.c (fun k => c9 387 k (by omega) (by omega))) v56 ?_ ?_ (by rw [b44]; exact hg) hnp hm hE hw (fun k => ?_), v56⟩
  · rw [b56]
    exact vB_in (by omega) (by omega) hg.1.2.2.1 (fun k => by rw [e1 _ k (by omega) (by omega)]; exact h.1.1.2.2.1 k)
  · rw [b56]
    exact vB_in (by omega) (by omega) hg.1.2.2.2 (fun k => by rw [e1 _ k (by omega) (by omega)]; exact h.1.1.2.2.2 k)
  · rw [c9 379 k (by omega) (by omega), c9 380 k (by omega) (by omega)]; exact ⟨h.2.2.1 k, h.2.2.2.1 k⟩
set_option maxHeartbeats 1000000 in
theorem undo_Cl {E : xCl} {ex : Bool} : Cl E ex yX10_undo [.ref 0] yX11_undo [.ref 347] := by
  intro I J P hX N hN
  obtain ⟨t, np, q, n, m, s, kb, u, sn, h⟩ := hX
  have h1 := h.1
  have h3 := h.2.2.1
  have h4 := h.2.2.2.1
  have h7 := h.2.2.2.2.2.2.1
  have h9 := h.2.2.2.2.2.2.2.2.1
  have hp := h7.2.2.2.2.2
  have np6 := h3.1
  have m8 := h4.1
  obtain ⟨u20, sn20, u1, u2, u3, Nn, hs, hmo⟩ := h9
  by_cases c : u = 0
  · subst c
    have cc := k_undo_n (E := E) (ex := ex) (I := I) (V := vB I 56) (J := J) (P := P) u1 0
    rw [wB_vB] at cc
    have rr := k_rundo_0 (E := E) (ex := ex) (I := I) (V := vR I 0) (e := I 347 52) (J := J) h1.2.1 rfl ((xu_ne (by omega)).trans u3) 0
    rw [preR hp, postR hp] at rr
    exact Cl.ro h (x_le (by omega) cc) (x_le (by omega) rr)
  · obtain ⟨cn, rfl⟩ : ∃ cn, u = cn + 1 := ⟨u - 1, by omega⟩
    have es : sv sn (cn + 1) cn = 107 + 12 * pv sn := by unfold sv pv; omega
    have hpv : pv sn < 20 := by unfold pv; omega
    obtain ⟨w1, Vs, w3, x1, x2, x3, x4, x5, x6, x7, x8, x9⟩ := hs cn (by omega)
    rw [es] at w1 w3
    have cc := k_undo (E := E) (ex := ex) (I := I) (V := vB I 56) (J := J) h1.2.1 h1.1 h1.2.2.1 h1.2.2.2.2.2 sn20 u2 (cn := cn) (by omega) u1 w1 0
    rw [wB_vB, wB_ext (unI I sn cn) 56 w3.1 w3.2] at cc
    have e0 : ∀ a k, ¬ (a = 0 ∧ (k = 12 ∨ k = 13)) → unI I sn cn a k = I a k := fun a k z => by
      unfold unI; rw [xu_ne (by omega), xu_ne (by omega)]
    have e1 : ∀ a k, ¬ ((a = 0 ∧ (k = 12 ∨ k = 13)) ∨ (56 ≤ a ∧ a ≤ 67)) → wB (unI I sn cn) 56 Vs a k = I a k := fun a k z => by
      rw [wB_o _ _ _ (by omega), e0 a k (by omega)]
    have hp1 : Pt (wB (unI I sn cn) 56 Vs) := hp.c (fun k => e1 387 k (by omega))
    have pre := preR hp1
    rw [e1 347 52 (by omega), vR_c (fun a k z1 z2 => e1 a k (by omega))] at pre
    have rr := k_rundo (E := E) (ex := ex) (I := wB (unI I sn cn) 56 Vs) (V := vR I 0) (e := I 347 52) (J := J) h1.2.1 rfl (u := cn) (by omega) ((xu_ne (by omega)).trans ((e1 _ _ (by omega)).trans u3)) 0
    rw [pre, show xu (wB (unI I sn cn) 56 Vs) 347 2 0 400 = I 400 from funext fun k => (xu_ne (by omega)).trans (e1 400 k (by omega))] at rr
    obtain ⟨t1, t2, t3, t4⟩ := tTake_v (vR I 0) (I 400) (37 * cn)
    have vv := h7.2.1
    have n12 := h7.1.1.1
    have hE : vE np (Nn cn) m Vs (tTake (vR I 0) (I 400) (37 * cn)) := by
      refine ⟨fun k hk => ?_, fun k hk => ?_, fun k hk => ?_, ?_, ?_, ?_⟩
      · rw [(t1 k (by omega)).1, (t1 k (by omega)).2]; exact x3 k hk
      · have z := x4 k hk
        have w := vv.2.1 k (by omega)
        rw [(t2 k (by omega)).1, (t2 k (by omega)).2, t4 3 k (by decide) (by decide) (by decide) (by decide) (by decide), t4 4 k (by decide) (by decide) (by decide) (by decide) (by decide), t4 5 k (by decide) (by decide) (by decide) (by decide) (by decide), t4 6 k (by decide) (by decide) (by decide) (by decide) (by decide), t4 7 k (by decide) (by decide) (by decide) (by decide) (by decide), t4 8 k (by decide) (by decide) (by decide) (by decide) (by decide), t4 12 0 (by decide) (by decide) (by decide) (by decide) (by decide)]
        exact ⟨z.2.2.1.trans w.1, z.2.2.2.1.trans w.2.1, z.2.2.2.2.1.trans w.2.2.1, z.2.2.2.2.2.1.trans w.2.2.2.1, z.2.2.2.2.2.2.1.trans w.2.2.2.2.1, z.2.2.2.2.2.2.2.trans w.2.2.2.2.2.1, z.1, z.2.1, by rw [x8]; exact w.2.2.2.2.2.2.2.2⟩
      · rw [t4 11 k (by decide) (by decide) (by decide) (by decide) (by decide), x7 k hk]; exact vv.2.2.1 k hk
      · rw [t3, x6]; exact x1.1.2.1
      · rw [t4 14 0 (by decide) (by decide) (by decide) (by decide) (by decide), x1.2.2.2.2.2.2.2.1, ← h7.1.2.2.2.2.2.2.2.1]; exact vv.2.2.2.2.1
      · rw [t4 15 0 (by decide) (by decide) (by decide) (by decide) (by decide), x9]; exact vv.2.2.2.2.2
    obtain ⟨zn, v56⟩ := h7.lay (C1 := unI I sn cn) (C2 := wE (xu (xu (wB (unI I sn cn) 56 Vs) 347 2 0) 347 83 (nI cn)) (I 347 52)) h3.1 h4.1 (fun a k z1 z2 => e0 a k (by omega)) (fun a k z => by
      unfold wE; rw [xu_f _ _ z, xu_f _ _ z, xu_f _ _ z]) (fun a k z1 z2 => e0 a k (by omega)) x1 hE (fun k hk => by
      have := h7.w (fun _ _ _ _ _ _ => rfl) h7.t12 k hk
      rw [t4 3 k (by decide) (by decide) (by decide) (by decide) (by decide), t4 4 k (by decide) (by decide) (by decide) (by decide) (by decide), t4 6 k (by decide) (by decide) (by decide) (by decide) (by decide), (t2 k hk).2]
      exact ⟨this.1, this.2.1, x5 k hk, this.2.2.2⟩)
    generalize eI2 : wR (wE (xu (xu (wB (unI I sn cn) 56 Vs) 347 2 0) 347 83 (nI cn)) (I 347 52)) 0 (tTake (vR I 0) (I 400) (37 * cn)) = I2 at zn v56 rr
    have e2 : ∀ a k, ¬ (376 ≤ a ∧ a ≤ 390) → ¬ (a = 347 ∧ (k = 2 ∨ k = 52 ∨ k = 83)) → I2 a k = wB (unI I sn cn) 56 Vs a k := fun a k z1 z2 => by
      rw [← eI2, w0_o _ _ (fun y => z1 y.1)]
      unfold wE
      rw [xu_ne (by omega), xu_ne (by omega), xu_ne (by omega)]
    have e : ∀ a k, ¬ ((56 ≤ a ∧ a ≤ 67) ∨ (a = 0 ∧ (k = 12 ∨ k = 13)) ∨ (376 ≤ a ∧ a ≤ 390) ∨ (a = 347 ∧ (k = 2 ∨ k = 52 ∨ k = 83))) → I2 a k = I a k := fun a k z => (e2 a k (by omega) (by omega)).trans (e1 a k (by omega))
    refine ⟨_, _, _, _, _, _, x_le (by omega) cc, x_le (by omega) rr, t, np, q, Nn cn, m, s, kb, cn, pv sn, h.lay (fun a k z => e a k (by omega)) zn ⟨by omega, hpv, ?_, ?_, ?_, Nn, fun i hi => ?_, fun i j z1 z2 => hmo i j z1 (by omega)⟩⟩
    · rw [e2 0 13 (by omega) (by omega), wB_o _ _ _ (by omega)]; exact xu_s _ _ _ _
    · rw [e2 0 12 (by omega) (by omega), wB_o _ _ _ (by omega)]; exact (xu_ne (by omega)).trans (xu_s _ _ _ _)
    · rw [← eI2, w0_o _ _ (fun y => absurd y.1.1 (by omega))]
      unfold wE
      rw [xu_ne (by omega)]; exact xu_s _ _ _ _
    · have es2 : sv (pv sn) cn i = sv sn (cn + 1) i := by unfold sv pv; omega
      have zi := sv_i sn (cn + 1) i
      obtain ⟨y1, Vi, y3, z1, z2, z3, z4, z5, z6, z7, z8, z9⟩ := hs i (by omega)
      have le := hmo i cn (by omega) (by omega)
      have ni12 : Nn cn ≤ 12 := x1.1.1
      rw [es2]
      refine ⟨y1, Vi, ?_, ?_, le, fun k hk => ?_, fun k hk => ?_, fun k hk => ?_, ?_, fun k hk => ?_, ?_, ?_⟩
      · rw [show vB I2 (sv sn (cn + 1) i) = vB I (sv sn (cn + 1) i) from vB_c (fun a k w1 w2 => e a k (by omega))]; exact y3
      · rw [show vB I2 44 = vB I 44 from vB_c (fun a k w1 w2 => e a k (by omega))]; exact z1
      · rw [e 400 _ (by omega), e 400 _ (by omega)]; exact z3 k hk
      · have a1 := z4 k hk
        have a2 := x4 k (by omega)
        rw [e 400 _ (by omega), e 400 _ (by omega), v56.a (f := 3) (by omega) (by omega) (by omega), v56.a (f := 4) (by omega) (by omega) (by omega), v56.a (f := 5) (by omega) (by omega) (by omega), v56.a (f := 6) (by omega) (by omega) (by omega), v56.a (f := 7) (by omega) (by omega) (by omega), v56.a (f := 8) (by omega) (by omega) (by omega), a2.2.2.1, a2.2.2.2.1, a2.2.2.2.2.1, a2.2.2.2.2.2.1, a2.2.2.2.2.2.2.1, a2.2.2.2.2.2.2.2]
        exact a1
      · rw [e 400 _ (by omega)]; exact z5 k hk
      · rw [e 400 _ (by omega)]; exact z6
      · rw [v56.1 11 k (by omega) (by omega) (by show k < 8; omega), x7 k hk]; exact z7 k hk
      · rw [v56.2 12 (by omega) (by omega), x8]; exact z8
      · rw [v56.2 15 (by omega) (by omega), x9]; exact z9
