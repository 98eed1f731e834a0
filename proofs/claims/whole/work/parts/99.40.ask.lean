/-! calls that only ask: what they share -/
theorem vE.vok {np n m : Nat} {V W : Nat → Nat → Int32} (h : vE np n m V W) (hv : Vok V n) (h3 : ∀ k, vp_in (W 3 k) 6) (h4 : ∀ k, vp_in (W 4 k) 6) : Vok W n := ⟨hv.1, h.2.2.2.1.symm.trans hv.2.1, h3, h4⟩
theorem vE.tok {np n m : Nat} {V W : Nat → Nat → Int32} (h : vE np n m V W) (ht : Tok V n) : Tok W n := fun j hj => by
  rw [← (h.2.1 j hj).2.2.2.2.2.2.2.1]
  rcases ht j hj with z | ⟨y, z1, z2, z3, z4⟩
  · exact Or.inl z
  · exact Or.inr ⟨y, z1, z2, z3, by rw [← (h.2.1 y z1).2.2.2.2.2.2.2.1]; exact z4⟩
theorem vR_x2 (I : Nat → Nat → Int32) (v : Int32) : vR (xu I 347 2 v) 0 = vR I 0 := by
  have e : ∀ a k, a ≠ 347 → xu I 347 2 v a k = I a k := fun a k h => xu_f _ _ h
  funext f k
  unfold vR
  rw [e 376 _ (by decide), e 377 _ (by decide), e 379 _ (by decide), e 380 _ (by decide), e 381 _ (by decide), e 382 _ (by decide), e 383 _ (by decide), e 384 _ (by decide), e 385 _ (by decide), e 386 _ (by decide), e 388 _ (by decide), e 378 _ (by decide), e 389 _ (by decide), e 390 _ (by decide), show (fun j => xu I 347 2 v 387 (12 * 0 + j)) = (fun j => I 387 (12 * 0 + j)) from funext fun j => e 387 _ (by decide)]
theorem preR {I : Nat → Nat → Int32} (hp : Pt I) : wR (wE I (I 347 52)) 0 (vR I 0) = I := by rw [wR0 hp, wE_id]
theorem Pt.x2 {I : Nat → Nat → Int32} (hp : Pt I) (k : Nat) (v : Int32) : Pt (xu I 347 k v) := hp.c (fun j => xu_f _ _ (by decide))
theorem postR {I : Nat → Nat → Int32} (hp : Pt I) (e : Int32) : wR (wE (xu I 347 2 0) e) 0 (vR I 0) = wE (xu I 347 2 0) e := by
  have := wR0 (hp.x2 2 0) e
  rwa [vR_x2] at this
theorem LwR.x2 {I : Nat → Nat → Int32} {L : Nat → (Nat → Int64) → Int64} (h : LwR I L) : LwR (xu I 347 2 0) L := ⟨h.1.of (fun a _ _ => funext fun k => xu_ne (by omega)), h.2.1.of (fun a _ _ => funext fun k => xu_ne (by omega)), h.2.2.of (fun a _ _ => funext fun k => xu_ne (by omega))⟩
theorem ag_e (I : Nat → Nat → Int32) (e : Int32) : Ag I (wE (xu I 347 2 0) e) := fun a k z => by
  unfold wE
  rw [xu_ne (by omega), xu_ne (by omega)]
theorem zN.rv {np q n m : Nat} {I : Nat → Nat → Int32} (h : zN np q n m I) : Vok (vR I 0) n ∧ Tok (vR I 0) n := ⟨h.2.1.vok h.1.1 h.2.2.1 h.2.2.2.1, h.2.1.tok h.1.2.2.1⟩
/-- a call that leaves the program's numbers, and of the reference's only what it notes as it goes -/
theorem Cl.ro {E : xCl} {ex : Bool} {t np q n m s kb u sn N : Nat} {I : Nat → Nat → Int32} {J J1 J2 : Nat → Nat → Int64} {P : Nat → Nat → Nat} {yC yR : MethodName} {vC vR : List Value} {r : Value} {e : Int32} (h : Rel t np q n m s kb u sn I P) (hc : xEx E ex N yC vC (SH, I, J, P) (some r) (SH, I, J1, P)) (hr : xEx E ex N yR vR (SH, I, J1, P) (some r) (SH, wE (xu I 347 2 0) e, J2, P)) : ∃ r I1 J1 P1 I2 J2, xEx E ex N yC vC (SH, I, J, P) (some r) (SH, I1, J1, P1) ∧ xEx E ex N yR vR (SH, I1, J1, P1) (some r) (SH, I2, J2, P1) ∧ RX I2 P1 :=
  ⟨r, I, J1, P, _, J2, hc, hr, t, np, q, n, m, s, kb, u, sn, h.g (ag_e I e) (Ap.rf P) ((h.2.2.2.2.2.2.1.2.2.2.2.2.x2 2 0).x2 52 e)⟩
theorem in_lt {c : Int32} {m : Nat} (hm : m < 2 ^ 31) (h0 : ¬ c < 0) (h : c < nI m) : ∃ j, j < m ∧ c = nI j := by
  have z1 := Int32.lt_iff_toInt_lt.mp h
  have e0 : (0 : Int32).toInt = 0 := by decide
  have z2 : ¬ c.toInt < 0 := fun z => h0 (Int32.lt_iff_toInt_lt.mpr (by rw [e0]; exact z))
  have z3 : (nI m).toInt = m := Int32.toInt_ofNat_of_lt hm
  refine ⟨c.toInt.toNat, by omega, Int32.toInt_inj.mp ?_⟩
  have : (nI c.toInt.toNat).toInt = c.toInt.toNat := Int32.toInt_ofNat_of_lt (by omega)
  omega
theorem fault_Cl {E : xCl} {ex : Bool} (w : Int32) : Cl E ex yX10_fault [.ref 0, .int w] yX11_fault [.ref 347, .int w] := by
  intro I J P hX N hN
  obtain ⟨t, np, q, n, m, s, kb, u, sn, h⟩ := hX
  have hp := h.2.2.2.2.2.2.1.2.2.2.2.2
  have cc := k_fault (E := E) (ex := ex) (I := I) (J := J) (P := P) w 0
  have rr := k_rfault (E := E) (ex := ex) (I := I) (J := J) (P := P) rfl w 0
  have e : sFa I w = (if w = 0 then xu I 347 2 0 347 4 else if w = 1 then xu I 347 2 0 347 5 else -1) := by
    unfold sFa
    rw [xu_ne (by omega), xu_ne (by omega), h.2.1.2.2.2.2.1, h.2.1.2.2.2.2.2]
  rw [← e, ← wE_id (xu I 347 2 0)] at rr
  exact Cl.ro h (x_le (by omega) cc) (x_le (by omega) rr)
theorem named_Cl {E : xCl} {ex : Bool} (x : Int32) : Cl E ex yX10_named [.ref 0, .int x] yX11_named [.ref 347, .int x] := by
  intro I J P hX N hN
  obtain ⟨t, np, q, n, m, s, kb, u, sn, h⟩ := hX
  have h1 := h.1
  have h3 := h.2.2.1
  have cc := k_named (E := E) (ex := ex) (I := I) (J := J) (P := P) h1.2.1 h1.1 h1.2.2.1 h3.1 h3.2.1 x 0
  have rr := k_rnamed (E := E) (ex := ex) (I := I) (J := J) (P := P) h1.2.1 rfl h3.1 ((xu_ne (by omega)).trans h3.2.2.1) x 0
  have e : sPn (I (t + 1)) x np 0 = rFd (xu I 347 2 0 352) x np 0 := sPn_r np 0 (fun k z1 z2 => by rw [xu_ne (by omega)]; exact (h3.2.2.2 k (by omega)).1)
  rw [← e, ← wE_id (xu I 347 2 0)] at rr
  exact Cl.ro h (x_le (by omega) cc) (x_le (by omega) rr)
theorem crossing_Cl {E : xCl} {ex : Bool} (c w : Int32) : Cl E ex yX10_crossing [.ref 0, .int c, .int w] yX11_crossing [.ref 347, .int c, .int w] := by
  intro I J P hX N hN
  obtain ⟨t, np, q, n, m, s, kb, u, sn, h⟩ := hX
  have h1 := h.1
  have h4 := h.2.2.2.1
  have h7 := h.2.2.2.2.2.2.1
  have hp := h7.2.2.2.2.2
  have cc := k_crossing (E := E) (ex := ex) (I := I) (V := vB I 56) (J := J) (P := P) h1.2.1 h1.1 h1.2.2.1 h1.2.2.2.2.2 h4.1 h4.2.1 c w 0
  rw [wB_vB] at cc
  have rr := k_rcrossing (E := E) (ex := ex) (I := I) (V := vR I 0) (e := I 347 52) (J := J) (P := P) h1.2.1 rfl h4.1 ((xu_ne (by omega)).trans h4.2.2.1) c w 0
  rw [preR hp, postR hp] at rr
  have e : sCr (vB I 56) I t c w = rCr (vR I 0) (xu I 347 2 0) c w := by
    unfold sCr rCr
    rw [xu_ne (by omega), h4.2.1, h4.2.2.1]
    by_cases c0 : c < 0
    · rw [if_pos c0, if_pos c0]
    · rw [if_neg c0, if_neg c0]
      by_cases c1 : c < nI m
      · rw [if_pos c1, if_pos c1]
        obtain ⟨j, hj, rfl⟩ := in_lt (by have := h4.1; omega) c0 c1
        have w4 := h4.2.2.2.1 j hj
        rw [nI_clamp (by have := h4.1; omega), xu_ne (by omega), xu_ne (by omega), xu_ne (by omega), w4.2.1, w4.2.2.1, w4.2.2.2, h7.2.1.2.2.1 j hj]
      · rw [if_neg c1, if_neg c1]
  rw [← e] at rr
  exact Cl.ro h (x_le (by omega) cc) (x_le (by omega) rr)
theorem bears_Cl {E : xCl} {ex : Bool} : Cl E ex yX10_bears [.ref 0] yX11_bears [.ref 347] := by
  intro I J P hX N hN
  obtain ⟨t, np, q, n, m, s, kb, u, sn, h⟩ := hX
  have h1 := h.1
  have h5 := h.2.2.2.2.1
  have h7 := h.2.2.2.2.2.2.1
  have hp := h7.2.2.2.2.2
  obtain ⟨J1, cc, -⟩ := k_bears (E := E) (ex := ex) (I := I) (V := vB I 56) (J := J) (P := P) h1.2.1 h1.1 h1.2.2.1 h1.2.2.2.2.2 h7.1.1 h5.1 0
  rw [wB_vB] at cc
  obtain ⟨e', J2, rr, -⟩ := k_rbears (E := E) (ex := ex) (I := I) (V := vR I 0) (e := I 347 52) (J := J1) (P := P) h1.2.1 rfl h7.rv.1 h7.rv.2 h5.2.1.x2 (Lv_7 I t) 0
  rw [preR hp, postR hp, ← h7.2.1.br' h7.1.1 h7.1.2.2.2.1 (LL.rf (Lv I t))] at rr
  exact Cl.ro h (x_le (by omega) cc) (x_le (by omega) rr)
theorem vE.ow {np n m : Nat} {V W : Nat → Nat → Int32} (h : vE np n m V W) (p q : Int32) : ∀ j, j ≤ n → sOw V p q j = sOw W p q j
  | 0, _ => rfl
  | j + 1, hj => by
    have e := h.2.1 j (by omega)
    rw [sOw, sOw, e.1, e.2.1, e.2.2.1, e.2.2.2.2.2.2.1, h.ow p q j (by omega)]
theorem strike_Cl {E : xCl} {ex : Bool} (a c : Int32) : Cl E ex yX10_strike [.ref 0, .int a, .int c] yX11_strike [.ref 347, .int a, .int c] := by
  intro I J P hX N hN
  obtain ⟨t, np, q, n, m, s, kb, u, sn, h⟩ := hX
  have h1 := h.1
  have h3 := h.2.2.1
  have h7 := h.2.2.2.2.2.2.1
  have hp := h7.2.2.2.2.2
  have cc := k_strike (E := E) (ex := ex) (I := I) (V := vB I 56) (J := J) (P := P) h1.2.1 h1.1 h1.2.2.1 h1.2.2.2.2.2 h7.1.1 a c 0
  rw [wB_vB] at cc
  have rr := k_rstrike (E := E) (ex := ex) (I := I) (V := vR I 0) (e := I 347 52) (J := J) (P := P) h1.2.1 rfl h7.rv.1 a c 0
  rw [preR hp, postR hp] at rr
  have e : sSk (vB I 56) I t n a c = rSk (vR I 0) (xu I 347 2 0) n a c := by
    unfold sSk rSk isP
    rw [xu_ne (by omega), h3.2.1, h3.2.2.1, h7.2.1.ow _ _ n (Nat.le_refl _), h7.2.1.ow _ _ n (Nat.le_refl _)]
    by_cases z : (¬ a < 0 ∧ ¬ nI np ≤ a) ∧ (¬ c < 0 ∧ ¬ nI np ≤ c) ∧ ¬ a = c
    · rw [if_pos z, if_pos z]
      by_cases y : sOw (vR I 0) c a n < sOw (vR I 0) a c n
      · rw [if_pos y, if_pos (Int32.le_of_lt y)]
      · rw [if_neg y]
        by_cases y2 : sOw (vR I 0) c a n ≤ sOw (vR I 0) a c n
        · rw [if_pos y2]
          exact Int32.le_antisymm (Int32.not_lt.mp y) y2
        · rw [if_neg y2]
    · rw [if_neg z, if_neg z]
  rw [← e] at rr
  exact Cl.ro h (x_le (by omega) cc) (x_le (by omega) rr)
theorem strand_Cl {E : xCl} {ex : Bool} (x w : Int32) : Cl E ex yX10_strand [.ref 0, .int x, .int w] yX11_strand [.ref 347, .int x, .int w] := by
  intro I J P hX N hN
  obtain ⟨t, np, q, n, m, s, kb, u, sn, h⟩ := hX
  have h1 := h.1
  have h5 := h.2.2.2.2.1
  have h7 := h.2.2.2.2.2.2.1
  have hp := h7.2.2.2.2.2
  obtain ⟨J1, cc, -⟩ := k_strand (E := E) (ex := ex) (I := I) (V := vB I 56) (J := J) (P := P) h1.2.1 h1.1 h1.2.2.1 h1.2.2.2.2.2 h7.1.1 h5.1 x w 0
  rw [wB_vB] at cc
  obtain ⟨e', J2, rr, -⟩ := k_rstrand (E := E) (ex := ex) (I := I) (V := vR I 0) (e := I 347 52) (J := J1) (P := P) h1.2.1 rfl h7.rv.1 h5.2.1.x2 (Lv_7 I t) x w 0
  rw [preR hp, postR hp] at rr
  have e : sSr (vB I 56) (Lv I t) x w = sSr (vR I 0) (Lv I t) x w := by
    unfold sSr
    by_cases z : sSt (vB I 56) x
    · rw [if_pos z, if_pos ((h7.2.1.st x).mp z)]
      obtain ⟨j, hj, rfl⟩ := h7.1.1.lt z
      have e := h7.2.1.2.1 j hj
      rw [nI_clamp (by have := h7.1.1.1; omega), e.1, e.2.1, e.2.2.1, e.2.2.2.1, e.2.2.2.2.1, e.2.2.2.2.2.1, e.2.2.2.2.2.2.1, e.2.2.2.2.2.2.2.1, h7.2.1.two h7.1.1 hj, h7.2.1.al h7.1.1 h7.1.2.2.2.1 (LL.rf (Lv I t))]
    · rw [if_neg z, if_neg (fun y => z ((h7.2.1.st x).mpr y))]
  rw [← e] at rr
  exact Cl.ro h (x_le (by omega) cc) (x_le (by omega) rr)
