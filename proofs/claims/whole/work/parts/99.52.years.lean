theorem tE.z {t np m : Nat} {I : Nat → Nat → Int32} (h3 : zE t np I) (h4 : zX t np m I) : tE m (fun o => I (t + o)) (rT I) := fun j hj => by
  have w := h4.2.2.2.1 j hj
  have g := vlt w.1
  exact ⟨w.2.2.2, w.2.1, w.2.2.1, (h3.2.2.2 _ g).2.2.2⟩
theorem rT_c {I I' : Nat → Nat → Int32} (e : ∀ a k, (a = 355 ∨ a = 363 ∨ a = 364 ∨ a = 365) → I' a k = I a k) : rT I' = rT I := by
  funext f k
  unfold rT
  rw [e 355 k (by omega), e 363 k (by omega), e 364 k (by omega), e 365 k (by omega)]
theorem sYr_k (V : Nat → Nat → Int32) (L : Nat → (Nat → Int64) → Int64) (n : Nat) (T : Nat → Nat → Int32) (m : Nat) {f k : Nat} (h : f = 3 ∨ f = 4 ∨ f = 7 ∨ f = 8 ∨ f = 10 ∨ f = 12 ∨ f = 13 ∨ f = 14) : ∀ j, sYr V L n T m j f k = V f k
  | 0 => rfl
  | j + 1 => by rw [sYr, sGo_k _ _ _ _ _ _ h]; exact sYr_k V L n T m h j
theorem sYr_15 (V : Nat → Nat → Int32) (L : Nat → (Nat → Int64) → Int64) (n : Nat) (T : Nat → Nat → Int32) (m : Nat) : ∀ j, sYr V L n T m j 15 0 = V 15 0 + nI j
  | 0 => by show V 15 0 = V 15 0 + 0; simp
  | j + 1 => by rw [sYr, sGo_15, sYr_15 V L n T m j, ← nI_add j 1, ← Int32.add_assoc]; rfl
theorem Vw.yr {n : Nat} {V : Nat → Nat → Int32} (h : Vw n V) (hn : n ≤ 12) (L : Nat → (Nat → Int64) → Int64) (T : Nat → Nat → Int32) (m : Nat) : ∀ j, Vw n (sYr V L n T m j) ∧ (zF V → zF (sYr V L n T m j))
  | 0 => ⟨h, fun z => z⟩
  | j + 1 => by
    have ih := h.yr hn L T m j
    have := ih.1.go hn L T m (-1)
    exact ⟨this.1, fun z => this.2 (ih.2 z)⟩
theorem vE.vw {np n m : Nat} {V W : Nat → Nat → Int32} (h : vE np n m V W) (hv : Vw n V) : Vw n W := fun j hj z => by
  have e := h.2.1 j hj
  rw [← e.2.2.2.2.2.2.1] at z
  rw [← e.2.2.1, ← e.2.2.2.1]; exact hv j hj z
set_option maxHeartbeats 1000000 in
theorem years_Cl {E : xCl} {ex : Bool} (x : Int32) : Cl E ex yX10_years [.ref 0, .int x] yX11_years [.ref 347, .int x] := by
  intro I J P hX N hN
  obtain ⟨t, np, q, n, m, s, kb, u, sn, h⟩ := hX
  have h1 := h.1
  have h2 := h.2.1
  have h3 := h.2.2.1
  have h4 := h.2.2.2.1
  have h5 := h.2.2.2.2.1
  have h7 := h.2.2.2.2.2.2.1
  have h9 := h.2.2.2.2.2.2.2.2.1
  have hp := h7.2.2.2.2.2
  have n12 := h7.1.1.1
  have vv := h7.2.1
  have e15 : vB I 56 15 0 = vR I 0 15 0 := vv.2.2.2.2.2
  by_cases c : okN (vB I 56) x
  · have c' : okN (vR I 0) x := by unfold okN at c ⊢; rw [← e15]; exact c
    obtain ⟨k, -, hk, rfl⟩ := in0.of (a := 0) (b := 99) (by omega) c.1 c.2.1 (by omega)
    obtain ⟨J1, cc, -⟩ := k_years (E := E) (ex := ex) (I := I) (V := vB I 56) (J := J) h1.2.1 h1.1 h1.2.2.1 h1.2.2.2.2.2 h7.1.1 h5.1 h4.1 h4.2.1 h4.2.2.2.2 hk c.2.2 0
    by_cases k0 : k = 0
    · subst k0
      rw [if_pos rfl] at cc
      have cc' : xEx E ex (0 + 9) yX10_years [.ref 0, .int (nI 0)] (SH, wB I 56 (vB I 56), J, P) (some (.int (vB I 56 15 0))) (SH, wB I 56 (vB I 56), J1, P) := cc
      rw [wB_vB] at cc'
      obtain ⟨e', J2, rr, -⟩ := k_ryears (E := E) (ex := ex) (I := I) (V := vR I 0) (e := I 347 52) (J := J1) h1.2.1 rfl h7.rv.1 h7.rv.2 h5.2.1.x2 (Lv_7 I t) h4.1 ((xu_ne (by omega)).trans h4.2.2.1) (fun k => by rw [xu_ne (by omega)]; exact (h2.2.2.2.1 k).2.2.2) hk c' 0
      rw [if_pos rfl] at rr
      have rr' : xEx E ex (0 + 9) yX11_years [.ref 347, .int (nI 0)] (SH, wR (wE I (I 347 52)) 0 (vR I 0), J1, P) (some (.int (vR I 0 15 0))) (SH, wR (wE (rPl (xu I 347 2 0)) e') 0 (vR I 0), J2, P) := rr
      have eP : ∀ a k, ¬ (a = 347 ∧ (k = 2 ∨ k = 69 ∨ k = 70 ∨ k = 71)) → rPl (xu I 347 2 0) a k = I a k := fun a k z => by
        unfold rPl
        rw [xu_ne (by omega), xu_ne (by omega), xu_ne (by omega), xu_ne (by omega)]
      have hpP : Pt (rPl (xu I 347 2 0)) := hp.c (fun k => eP 387 k (by omega))
      have post := wR0 hpP e'
      rw [vR_c (I := I) (fun a k z1 z2 => eP a k (by omega))] at post
      rw [preR hp, post, ← e15] at rr'
      exact ⟨_, _, _, _, _, _, x_le (by omega) cc', x_le (by omega) rr', t, np, q, n, m, s, kb, u, sn, h.g (fun a k z => by unfold wE; rw [xu_ne (by omega), eP a k (by omega)]) (Ap.rf P) (hpP.x2 52 e')⟩
    · rw [if_neg k0, wB_vB] at cc
      generalize eV : sYr (vB I 56) (Lv I t) n (fun o => I (t + o)) m k = V' at cc
      have e0 : ∀ a k, ¬ (a = 0 ∧ k = 13) → xu I 0 13 0 a k = I a k := fun a k z => xu_ne z
      have e1 : ∀ a k, ¬ ((a = 0 ∧ k = 13) ∨ (56 ≤ a ∧ a ≤ 67)) → wB (xu I 0 13 0) 56 V' a k = I a k := fun a k z => by
        rw [wB_o _ _ _ (by omega), e0 a k (by omega)]
      have hp1 : Pt (wB (xu I 0 13 0) 56 V') := hp.c (fun k => e1 387 k (by omega))
      have pre := preR hp1
      rw [e1 347 52 (by omega), vR_c (fun a k z1 z2 => e1 a k (by omega))] at pre
      have i0 : ∀ a k, 347 ≤ a → ¬ (a = 347 ∧ k = 2) → xu (wB (xu I 0 13 0) 56 V') 347 2 0 a k = I a k := fun a k z1 z2 => (xu_ne z2).trans (e1 a k (by omega))
      obtain ⟨e', J2, rr, -⟩ := k_ryears (E := E) (ex := ex) (I := wB (xu I 0 13 0) 56 V') (V := vR I 0) (e := I 347 52) (J := J1) h1.2.1 rfl h7.rv.1 h7.rv.2 (h5.2.1.of (fun a z1 z2 => funext fun k => i0 a k (by omega) (by omega))) (Lv_7 I t) h4.1 ((i0 _ _ (by omega) (by omega)).trans h4.2.2.1) (fun k => by rw [i0 _ _ (by omega) (by omega)]; exact (h2.2.2.2.1 k).2.2.2) hk c' 0
      rw [if_neg k0, pre, rT_c (I := I) (fun a k z => i0 a k (by omega) (by omega))] at rr
      have hE0 := vv.yr h7.1.1 h7.1.2.2.2.1 (LL.rf (Lv I t)) (tE.z h3 h4) k
      have hW3 : ∀ f k', (f = 3 ∨ f = 4 ∨ f = 7 ∨ f = 8 ∨ f = 10 ∨ f = 12 ∨ f = 13 ∨ f = 14) → sYr (vR I 0) (Lv I t) n (rT I) m k f k' = vR I 0 f k' := fun f k' z => sYr_k _ _ _ _ _ z k
      have hWz := ((vv.vw h7.1.2.2.2.2.1).yr n12 (Lv I t) (rT I) m k).2 (fun j hj => (h7.w (fun _ _ _ _ _ _ => rfl) h7.t12 j hj).2.2.2)
      generalize eW : sYr (vR I 0) (Lv I t) n (rT I) m k = W' at rr hE0 hW3 hWz
      rw [eV] at hE0
      have hV3 : ∀ f k', (f = 3 ∨ f = 4 ∨ f = 7 ∨ f = 8 ∨ f = 10 ∨ f = 12 ∨ f = 13 ∨ f = 14) → V' f k' = vB I 56 f k' := fun f k' z => by rw [← eV]; exact sYr_k _ _ _ _ _ z k
      have hVv : Vok V' n := by rw [← eV]; exact h7.1.1.yr _ _ _ k
      have hVt : Tok V' n := by rw [← eV]; exact h7.1.2.2.1.yr _ _ _ k
      have hVb : Bd np n V' := by rw [← eV]; exact h7.1.2.2.2.1.yr _ _ _ k
      have hVw : Vw n V' := by rw [← eV]; exact (Vw.yr h7.1.2.2.2.2.1 n12 _ _ _ k).1
      have hg : vG np q n V' (vB I 44) := by
        refine ⟨hVv, h7.1.2.1, hVt, hVb, hVw, fun j hj => ?_, ?_, ?_, ?_⟩
        · rw [hV3 3 j (by omega), hV3 4 j (by omega), hV3 7 j (by omega), hV3 8 j (by omega)]; exact h7.1.2.2.2.2.2.1 j hj
        · rw [hV3 12 0 (by omega)]; exact h7.1.2.2.2.2.2.2.1
        · rw [hV3 14 0 (by omega)]; exact h7.1.2.2.2.2.2.2.2.1
        · rw [← eV, sYr_15]
          obtain ⟨y, -, y2, y3⟩ := h7.1.2.2.2.2.2.2.2.2
          have c3 := c.2.2
          rw [y3, nI_add] at c3 ⊢
          have := Int32.le_iff_toInt_le.mp c3
          rw [nIi (by omega)] at this
          have e9 : (999 : Int32).toInt = 999 := by decide
          exact ⟨y + k, by omega, by omega, rfl⟩
      obtain ⟨zn, v56⟩ := h7.lay (C1 := xu I 0 13 0) (C2 := wE (xu (rPl (xu (wB (xu I 0 13 0) 56 V') 347 2 0)) 347 83 0) e') h3.1 h4.1 (fun a k z1 z2 => e0 a k (by omega)) (fun a k z => by
        unfold wE; rw [xu_f _ _ z, xu_f _ _ z, rPl_o z, xu_f _ _ z]) (fun a k z1 z2 => e0 a k (by omega)) hg hE0 (fun k' hk' => by
        have w := h7.w (fun _ _ _ _ _ _ => rfl) h7.t12 k' hk'
        rw [hW3 3 k' (by omega), hW3 4 k' (by omega), hW3 10 k' (by omega)]
        exact ⟨w.1, w.2.1, w.2.2.1, hWz k' hk'⟩)
      rw [← hE0.2.2.2.2.2] at rr
      generalize eI2 : wR (wE (xu (rPl (xu (wB (xu I 0 13 0) 56 V') 347 2 0)) 347 83 0) e') 0 W' = I2 at zn v56 rr
      have e2 : ∀ a k, ¬ (376 ≤ a ∧ a ≤ 390) → ¬ (a = 347 ∧ (k = 2 ∨ k = 52 ∨ k = 69 ∨ k = 70 ∨ k = 71 ∨ k = 83)) → I2 a k = wB (xu I 0 13 0) 56 V' a k := fun a k z1 z2 => by
        rw [← eI2, w0_o _ _ (fun y => z1 y.1)]
        unfold wE rPl
        rw [xu_ne (by omega), xu_ne (by omega), xu_ne (by omega), xu_ne (by omega), xu_ne (by omega), xu_ne (by omega)]
      have e : ∀ a k, ¬ ((56 ≤ a ∧ a ≤ 67) ∨ (a = 0 ∧ k = 13) ∨ (376 ≤ a ∧ a ≤ 390) ∨ (a = 347 ∧ (k = 2 ∨ k = 52 ∨ k = 69 ∨ k = 70 ∨ k = 71 ∨ k = 83))) → I2 a k = I a k := fun a k z => (e2 a k (by omega) (by omega)).trans (e1 a k (by omega))
      refine ⟨_, _, _, _, _, _, x_le (by omega) cc, x_le (by omega) rr, t, np, q, n, m, s, kb, 0, sn, h.lay (fun a k z => e a k (by omega)) zn ⟨by omega, h9.2.1, ?_, ?_, ?_, fun _ => 0, fun i hi => absurd hi (by omega), fun i j z1 z2 => Nat.le_refl _⟩⟩
      · rw [e2 0 13 (by omega) (by omega), wB_o _ _ _ (by omega)]; exact xu_s _ _ _ _
      · rw [e 0 12 (by omega)]; exact h9.2.2.2.1
      · rw [← eI2, w0_o _ _ (fun y => absurd y.1.1 (by omega))]
        unfold wE
        rw [xu_ne (by omega)]; exact xu_s _ _ _ _
  · have cc := k_years_n (E := E) (ex := ex) (I := I) (V := vB I 56) (J := J) h1.2.1 h1.1 h1.2.2.1 h1.2.2.2.2.2 c 0
    rw [wB_vB] at cc
    have rr := k_ryears_n (E := E) (ex := ex) (I := I) (V := vR I 0) (e := I 347 52) (J := J) h1.2.1 rfl (x := x) (fun z => c (by unfold okN at z ⊢; rw [e15]; exact z)) 0
    rw [preR hp, postR hp] at rr
    exact Cl.ro h (x_le (by omega) cc) (x_le (by omega) rr)
