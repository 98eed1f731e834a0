/-! calls that try: life, tried -/
theorem rr1 {a : Nat} (h : 376 ≤ a ∧ a ≤ 390) : (379 ≤ a ∧ a ≤ 382 → ro (a - 376) 1 = 0 ∧ rq (a - 376) = 12) ∧ (¬ (379 ≤ a ∧ a ≤ 382) → ro (a - 376) 1 = rq (a - 376)) := by
  have key : ∀ a : Fin 15, ((3 ≤ a.val ∧ a.val ≤ 6) → ro a.val 1 = 0 ∧ rq a.val = 12) ∧ (¬ (3 ≤ a.val ∧ a.val ≤ 6) → ro a.val 1 = rq a.val) := by decide
  have z := key ⟨a - 376, by omega⟩
  exact ⟨fun y => z.1 ⟨by show 3 ≤ a - 376; omega, by show a - 376 ≤ 6; omega⟩, fun y => z.2 (fun w => y ⟨by have : 3 ≤ a - 376 := w.1; omega, by have : a - 376 ≤ 6 := w.2; omega⟩)⟩
theorem rqv : ∀ a, 376 ≤ a → a ≤ 390 → rq (a - 376) = (if a ≤ 377 then 6 else if a = 378 then 1 else if a ≤ 387 then 12 else if a = 388 then 8 else 1) := by
  intro a h1 h2
  have key : ∀ a : Fin 15, rq a.val = (if a.val ≤ 1 then 6 else if a.val = 2 then 1 else if a.val ≤ 11 then 12 else if a.val = 12 then 8 else 1) := by decide
  have z := key ⟨a - 376, by omega⟩
  rw [show (⟨a - 376, by omega⟩ : Fin 15).val = a - 376 from rfl] at z
  rw [z]
  repeat' split
  all_goals omega
/-- what a trial leaves, as far as the rest goes -/
theorem ag_t {I C W : Nat → Nat → Int32} (e : ∀ a k, ¬ ((80 ≤ a ∧ a ≤ 91) ∨ (a = 347 ∧ (k = 2 ∨ k = 52 ∨ k = 69 ∨ k = 70 ∨ k = 71)) ∨ (98 ≤ a ∧ a ≤ 106) ∨ (391 ≤ a ∧ a ≤ 394) ∨ (396 ≤ a ∧ a ≤ 399)) → C a k = I a k) (hf : FX (vR I 0) W) : Ag I (wR C 1 W) := fun a k z => by
  simp only [wR]
  by_cases c : 376 ≤ a ∧ a ≤ 390
  · by_cases d : 379 ≤ a ∧ a ≤ 382
    · have w := (rr1 c).1 d
      rw [w.1, w.2]
      by_cases hk : k < 12
      · rw [if_pos ⟨c, by omega, by omega⟩, if_neg (by omega), Nat.sub_zero]
        rcases (show a = 379 ∨ a = 380 ∨ a = 381 ∨ a = 382 by omega) with rfl | rfl | rfl | rfl
        · exact hf 3 k (by omega)
        · exact hf 4 k (by omega)
        · exact hf 8 k (by omega)
        · exact hf 7 k (by omega)
      · rw [if_neg (fun y => hk (by omega))]; exact e a k (by omega)
    · have w := (rr1 c).2 d
      have v := rqv a c.1 c.2
      rw [if_neg (fun y => ?_)]
      · exact e a k (by omega)
      · rw [w] at y
        generalize rq (a - 376) = x at y v
        have y1 := y.2.1
        rcases (show a = 376 ∨ a = 377 ∨ a = 378 ∨ a = 383 ∨ a = 384 ∨ a = 385 ∨ a = 386 ∨ a = 387 ∨ a = 388 ∨ a = 389 ∨ a = 390 by omega) with rfl | rfl | rfl | rfl | rfl | rfl | rfl | rfl | rfl | rfl | rfl <;> simp at v <;> omega
  · rw [if_neg (fun y => c y.1)]; exact e a k (by omega)
theorem pt_t {C W : Nat → Nat → Int32} (h : Pt C) : Pt (wR C 1 W) := fun j hj => by
  simp only [wR]
  have w := (rr1 (a := 387) (by omega)).2 (by omega)
  have v := rqv 387 (by omega) (by omega)
  rw [w, v]
  by_cases c : 12 ≤ j
  · rw [if_pos ⟨by omega, by simp; omega, by simp; omega⟩, if_pos trivial]
    exact bI_01 _ (by simp; omega)
  · rw [if_neg (fun y => c (by have := y.2.1; simp at this; omega))]; exact h j hj
/-- a call that tries on both sides -/
theorem Cl.tr {E : xCl} {ex : Bool} {t np q n m s kb u sn N : Nat} {I W1 W2 : Nat → Nat → Int32} {J J1 J2 : Nat → Nat → Int64} {P : Nat → Nat → Nat} {yC yR : MethodName} {vC vR' : List Value} {r : Value} {e' : Int32} (h : Rel t np q n m s kb u sn I P) (hc : xEx E ex N yC vC (SH, I, J, P) (some r) (SH, wB I 80 W1, J1, xu P 80 0 (t + 1))) (hr : xEx E ex N yR vR' (SH, wB I 80 W1, J1, xu P 80 0 (t + 1)) (some r) (SH, wR (wE (rPl (xu (wB I 80 W1) 347 2 0)) e') 1 W2, J2, xu P 80 0 (t + 1))) (hf : FX (vR I 0) W2) : ∃ r I1 J1 P1 I2 J2, xEx E ex N yC vC (SH, I, J, P) (some r) (SH, I1, J1, P1) ∧ xEx E ex N yR vR' (SH, I1, J1, P1) (some r) (SH, I2, J2, P1) ∧ RX I2 P1 := by
  have e : ∀ a k, ¬ ((80 ≤ a ∧ a ≤ 91) ∨ (a = 347 ∧ (k = 2 ∨ k = 52 ∨ k = 69 ∨ k = 70 ∨ k = 71))) → wE (rPl (xu (wB I 80 W1) 347 2 0)) e' a k = I a k := fun a k z => by
    unfold wE rPl
    rw [xu_ne (by omega), xu_ne (by omega), xu_ne (by omega), xu_ne (by omega), xu_ne (by omega), wB_o _ _ _ (by omega)]
  exact ⟨r, _, J1, _, _, J2, hc, hr, t, np, q, n, m, s, kb, u, sn, h.g (ag_t (fun a k z => e a k (by omega)) hf) (fun a k z => xu_ne z) (pt_t (h.2.2.2.2.2.2.1.2.2.2.2.2.c (fun k => e 387 k (by omega))))⟩
theorem w80_e {I W1 : Nat → Nat → Int32} {a k : Nat} (h1 : ¬ (80 ≤ a ∧ a ≤ 91)) (h2 : ¬ (a = 347 ∧ k = 2)) : xu (wB I 80 W1) 347 2 0 a k = I a k := (xu_ne h2).trans (wB_o _ _ _ (by omega) _)
theorem w80_v (I W1 : Nat → Nat → Int32) : vR (xu (wB I 80 W1) 347 2 0) 0 = vR I 0 := vR_c (fun a k z1 z2 => w80_e (by omega) (by omega))
theorem w80_T (I W1 : Nat → Nat → Int32) : rT (xu (wB I 80 W1) 347 2 0) = rT I := rT_c (fun a k z => w80_e (by omega) (by omega))
theorem sLf_eq {Y Z : Nat → Nat → Nat → Int32} {x : Int32} (h : ∀ j, sTh (Y j) x ↔ sTh (Z j) x) : ∀ c j, sLf Y x c j = sLf Z x c j
  | 0, _ => rfl
  | c + 1, j => by
    rw [sLf, sLf, sLf_eq h c (j + 1)]
    by_cases z : sTh (Y j) x
    · rw [if_pos z, if_pos ((h j).mp z)]
    · rw [if_neg z, if_neg (fun y => z ((h j).mpr y))]
theorem life_Cl {E : xCl} {ex : Bool} (x : Int32) : Cl E ex yX10_life [.ref 0, .int x] yX11_life [.ref 347, .int x] := by
  intro I J P hX N hN
  obtain ⟨t, np, q, n, m, s, kb, u, sn, h⟩ := hX
  have h1 := h.1
  have h2 := h.2.1
  have h3 := h.2.2.1
  have h4 := h.2.2.2.1
  have h5 := h.2.2.2.2.1
  have h7 := h.2.2.2.2.2.2.1
  have hp := h7.2.2.2.2.2
  have vv := h7.2.1
  by_cases c : sSt (vB I 56) x
  · obtain ⟨J1, W1, cc, -⟩ := k_life (E := E) (ex := ex) (I := I) (W := vB I 80) (J := J) h1.2.1 h1.1 h1.2.2.1 h1.2.2.2.2.2 h7.1.1 h5.1 h4.1 h4.2.1 h4.2.2.2.2 c 0
    rw [wB_vB] at cc
    obtain ⟨e', J2, W2, rr, -, hf⟩ := k_rlife (E := E) (ex := ex) (I := wB I 80 W1) (e := wB I 80 W1 347 52) (J := J1) (h1.2.1.xb hb80 (t + 1)) rfl (hp.c (fun k => w80_e (by omega) (by omega))) (by rw [w80_v]; exact h7.rv.1) (by rw [w80_v]; exact h7.rv.2) (h5.2.1.of (fun a z1 z2 => funext fun k => w80_e (by omega) (by omega))) (Lv_7 I t) h4.1 ((w80_e (by omega) (by omega)).trans h4.2.2.1) (fun k => by rw [w80_e (by omega) (by omega)]; exact (h2.2.2.2.1 k).2.2.2) (s := x) (by rw [w80_v]; exact (vv.st x).mp c) 0
    rw [wE_id, w80_v, w80_T, ← sLf_eq (fun j => (vv.yr h7.1.1 h7.1.2.2.2.1 (LL.rf (Lv I t)) (tE.z h3 h4) j).th (h7.1.1.yr _ _ _ j) x)] at rr
    rw [w80_v] at hf
    exact Cl.tr h (x_le (by omega) cc) (x_le (by omega) rr) hf
  · have cc := k_life_n (E := E) (ex := ex) (I := I) (W := vB I 80) (J := J) h1.2.1 h1.1 h1.2.2.1 h1.2.2.2.2.2 c 0
    rw [wB_vB] at cc
    have rr := k_rlife_n (E := E) (ex := ex) (I := I) (e := I 347 52) (J := J) h1.2.1 rfl (hp.x2 2 0) (by rw [vR_x2]; exact h7.rv.1) (s := x) (by rw [vR_x2]; exact fun z => c ((vv.st x).mpr z)) 0
    rw [wE_id] at rr
    exact Cl.ro h (x_le (by omega) cc) (x_le (by omega) rr)
theorem vE.t0 {np n m : Nat} {V W : Nat → Nat → Int32} (h : vE np n m V W) (hv : Vok V n) (w i : Int32) : vE np n m (sT0 V w i) (sT0 W w i) := by
  unfold sT0
  by_cases c : w = 2
  · rw [if_pos c, if_pos c]
    by_cases d : sTh V i
    · rw [if_pos d, if_pos ((h.th hv i).mp d)]; exact h.x1 (by decide)
    · rw [if_neg d, if_neg (fun z => d ((h.th hv i).mpr z))]; exact h
  · rw [if_neg c, if_neg c]
    split
    · obtain ⟨h1, h2, h3, h4, h5, h6⟩ := h
      refine ⟨fun k hk => ?_, fun k hk => ?_, fun k hk => ?_, ?_, ?_, ?_⟩
      · rw [xu_f _ _ (by decide), xu_f _ _ (by decide), xu_f _ _ (by decide), xu_f _ _ (by decide)]; exact h1 k hk
      · rw [xu_s, xu_s, xu_f _ _ (by decide), xu_f _ _ (by decide), xu_f _ _ (by decide), xu_f _ _ (by decide), xu_f _ _ (by decide), xu_f _ _ (by decide), xu_f _ _ (by decide), xu_f _ _ (by decide), xu_f _ _ (by decide), xu_f _ _ (by decide), xu_f _ _ (by decide), xu_f _ _ (by decide), xu_f _ _ (by decide), xu_f _ _ (by decide), xu_f _ _ (by decide), xu_f _ _ (by decide)]
        obtain ⟨y1, y2, y3, y4, y5, y6, y7, y8, y9⟩ := h2 k hk
        exact ⟨y1, y2, y3, y4, y5, y6, y7, y8, rfl⟩
      · rw [xu_f _ _ (by decide), xu_f _ _ (by decide)]; exact h3 k hk
      · rw [xu_f _ _ (by decide), xu_f _ _ (by decide)]; exact h4
      · rw [xu_f _ _ (by decide), xu_f _ _ (by decide)]; exact h5
      · rw [xu_f _ _ (by decide), xu_f _ _ (by decide)]; exact h6
    · exact h
theorem Bd.t0 {np n : Nat} {V : Nat → Nat → Int32} (h : Bd np n V) (w i : Int32) : Bd np n (sT0 V w i) := by
  unfold sT0
  split
  · split
    · exact h.xu (by decide) (by decide)
    · exact h
  · split
    · exact h.xu (by decide) (by decide)
    · exact h
theorem tried_Cl {E : xCl} {ex : Bool} (w i x : Int32) : Cl E ex yX10_tried [.ref 0, .int w, .int i, .int x] yX11_tried [.ref 347, .int w, .int i, .int x] := by
  intro I J P hX N hN
  obtain ⟨t, np, q, n, m, s, kb, u, sn, h⟩ := hX
  have h1 := h.1
  have h2 := h.2.1
  have h3 := h.2.2.1
  have h4 := h.2.2.2.1
  have h5 := h.2.2.2.2.1
  have h7 := h.2.2.2.2.2.2.1
  have hp := h7.2.2.2.2.2
  have vv := h7.2.1
  have ok : okR (vB I 56) w i x ↔ okR (vR I 0) w i x := by
    have es : sSt (vB I 56) i = sSt (vR I 0) i := propext (vv.st i)
    unfold okR
    by_cases d : w = 2
    · rw [if_pos d, if_pos d, es]
    · rw [if_neg d, if_neg d]
  by_cases c : okR (vB I 56) w i x
  · have c' := ok.mp c
    obtain ⟨k, -, hk, rfl⟩ := in0.of (a := 0) (b := 50) (by omega) c.2.2.2.1 (Int32.not_lt.mpr c.2.2.2.2) (by omega)
    obtain ⟨J1, W1, cc, -⟩ := k_tried (E := E) (ex := ex) (I := I) (W := vB I 80) (J := J) h1.2.1 h1.1 h1.2.2.1 h1.2.2.2.2.2 h7.1.1 h5.1 h4.1 h4.2.1 h4.2.2.2.2 hk c 0
    rw [wB_vB] at cc
    obtain ⟨e', J2, W2, rr, -, hf⟩ := k_rtried (E := E) (ex := ex) (I := wB I 80 W1) (e := wB I 80 W1 347 52) (J := J1) (h1.2.1.xb hb80 (t + 1)) rfl (hp.c (fun k => w80_e (by omega) (by omega))) (by rw [w80_v]; exact h7.rv.1) (by rw [w80_v]; exact h7.rv.2) (h5.2.1.of (fun a z1 z2 => funext fun k => w80_e (by omega) (by omega))) (Lv_7 I t) h4.1 ((w80_e (by omega) (by omega)).trans h4.2.2.1) (fun k => by rw [w80_e (by omega) (by omega)]; exact (h2.2.2.2.1 k).2.2.2) hk (by rw [w80_v]; exact c') 0
    have b0 := h7.1.2.2.2.1.t0 w i
    have hE := (vv.t0 h7.1.1 w i).yl (h7.1.1.t0 w i) b0 (LL.rf (Lv I t)) (tE.z h3 h4) w k
    rw [wE_id, w80_v, w80_T, ← hE.br ((h7.1.1.t0 w i).yl _ _ _ _ k) (b0.yl _ _ _ _ k) (LL.rf (Lv I t)) n (Nat.le_refl _)] at rr
    rw [w80_v] at hf
    exact Cl.tr h (x_le (by omega) cc) (x_le (by omega) rr) hf
  · have cc := k_tried_n (E := E) (ex := ex) (I := I) (W := vB I 80) (J := J) h1.2.1 h1.1 h1.2.2.1 h1.2.2.2.2.2 c 0
    rw [wB_vB] at cc
    have rr := k_rtried_n (E := E) (ex := ex) (I := I) (e := I 347 52) (J := J) h1.2.1 rfl (hp.x2 2 0) (by rw [vR_x2]; exact h7.rv.1) (w := w) (i := i) (x := x) (by rw [vR_x2]; exact fun z => c (ok.mpr z)) 0
    rw [wE_id] at rr
    exact Cl.ro h (x_le (by omega) cc) (x_le (by omega) rr)
