/-- what the reference notes as it pairs is scratch -/
theorem Cl.wy {E : xCl} {ex : Bool} {t np q n m s kb u sn N : Nat} {I C1 C2 : Nat → Nat → Int32} {J J1 J2 : Nat → Nat → Int64} {P : Nat → Nat → Nat} {yC yR : MethodName} {vC vR' : List Value} {r : Value} {e' : Int32} {a0 m0 p0 : Nat → Int32} (h : Rel t np q n m s kb u sn I P) (e0 : ∀ a k, ¬ (98 ≤ a ∧ a ≤ 106) → C1 a k = I a k) (eC : C2 = wY (xu C1 347 2 0) a0 m0 p0) (hc : xEx E ex N yC vC (SH, I, J, P) (some r) (SH, C1, J1, P)) (hr : xEx E ex N yR vR' (SH, wR (wE C1 (C1 347 52)) 0 (vR I 0), J1, P) (some r) (SH, wR (wE C2 e') 0 (vR I 0), J2, P)) : ∃ r I1 J1 P1 I2 J2, xEx E ex N yC vC (SH, I, J, P) (some r) (SH, I1, J1, P1) ∧ xEx E ex N yR vR' (SH, I1, J1, P1) (some r) (SH, I2, J2, P1) ∧ RX I2 P1 := by
  have hp := h.2.2.2.2.2.2.1.2.2.2.2.2
  have e2 : ∀ a k, ¬ ((98 ≤ a ∧ a ≤ 106) ∨ (392 ≤ a ∧ a ≤ 394) ∨ (a = 347 ∧ k = 2)) → C2 a k = I a k := fun a k z => by
    rw [eC, wY_o _ _ _ _ (by omega), xu_ne (by omega), e0 a k (by omega)]
  have hp1 : Pt C1 := hp.c (fun k => e0 387 k (by omega))
  have hp2 : Pt C2 := hp.c (fun k => e2 387 k (by omega))
  have pre := preR hp1
  rw [vR_c (I := I) (fun a k z1 z2 => e0 a k (by omega))] at pre
  have post := wR0 hp2 e'
  rw [vR_c (I := I) (fun a k z1 z2 => e2 a k (by omega))] at post
  rw [pre, post] at hr
  exact ⟨r, _, J1, _, _, J2, hc, hr, t, np, q, n, m, s, kb, u, sn, h.g (fun a k z => by unfold wE; rw [xu_ne (by omega), e2 a k (by omega)]) (Ap.rf P) (hp2.x2 52 e')⟩
theorem twists_Cl {E : xCl} {ex : Bool} (x : Int32) : Cl E ex yX10_twists [.ref 0, .int x] yX11_twists [.ref 347, .int x] := by
  intro I J P hX N hN
  obtain ⟨t, np, q, n, m, s, kb, u, sn, h⟩ := hX
  have h1 := h.1
  have h5 := h.2.2.2.2.1
  have h6 := h.2.2.2.2.2.1
  have h7 := h.2.2.2.2.2.2.1
  have hp := h7.2.2.2.2.2
  have vv := h7.2.1
  by_cases c : okK x
  · obtain ⟨k, -, hk, rfl⟩ := in0.of (a := 0) (b := 5) (by omega) c.1 (Int32.not_lt.mpr c.2) (by omega)
    obtain ⟨J1, cc, -⟩ := k_twists (E := E) (ex := ex) (I := I) (V := vB I 56) (J := J) h1.2.1 h1.1 h1.2.2.1 h1.2.2.2.2.2 h7.1.1 h5.1 c 0
    rw [wRw_w, wB_vB] at cc
    have g99 : ∀ i, i < n → wRw I (gS (vB I 56) (Lv I t)) (gT (vB I 56) (Lv I t)) n 99 i = sAl (vB I 56) (Lv I t) (nI i) 0 := fun i hi => by simp [wRw, hi, gS]
    generalize eC : wRw I (gS (vB I 56) (Lv I t)) (gT (vB I 56) (Lv I t)) n = C1 at cc g99
    have e0 : ∀ a k, ¬ (98 ≤ a ∧ a ≤ 106) → C1 a k = I a k := fun a k z => by rw [← eC]; exact wRw_o (by omega) (by omega)
    obtain ⟨e', J2, rr, -⟩ := k_rtwists (E := E) (ex := ex) (I := C1) (V := vR I 0) (e := C1 347 52) (J := J1) h1.2.1 rfl h7.rv.1 (h5.2.1.of (fun a z1 z2 => funext fun k => (xu_ne (by omega)).trans (e0 a k (by omega)))) (Lv_7 I t) hk 0
    obtain ⟨p, -, pp, p3⟩ := h6.2.2.2.2.1
    rw [← twists_e vv h7.1.1 h7.1.2.2.2.1 h7.1.2.2.2.2.1 (h7.1.2.2.2.2.2.2.2.1.trans p3) pp (Lv I t) g99 hk] at rr
    exact Cl.wy h e0 rfl (x_le (by omega) cc) (x_le (by omega) rr)
  · have cc := k_twists_n (E := E) (ex := ex) (I := I) (V := vB I 56) (J := J) (P := P) c 0
    rw [wB_vB] at cc
    have rr := k_rtwists_n (E := E) (ex := ex) (I := I) (V := vR I 0) (e := I 347 52) (J := J) h1.2.1 rfl (x := x) (fun z => c ⟨z.1, Int32.not_lt.mp z.2⟩) 0
    rw [preR hp, postR hp] at rr
    exact Cl.ro h (x_le (by omega) cc) (x_le (by omega) rr)
