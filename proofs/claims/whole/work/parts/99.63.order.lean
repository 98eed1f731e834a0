/-! order, answered alike -/
theorem shl_n {n : Nat} (h : n ≤ 12) : (1 : Int32) <<< (nI n &&& 31) = nI (2 ^ n) := by
  have key : ∀ n : Fin 13, (1 : Int32) <<< (nI n.val &&& 31) = nI (2 ^ n.val) := by decide
  exact key ⟨n, by omega⟩
theorem nn_of {x : Int32} (h : ¬ x < 0) : ∃ A, A < 2 ^ 31 ∧ x = nI A := by
  have e0 : (0 : Int32).toInt = 0 := by decide
  have z : ¬ x.toInt < 0 := fun y => h (Int32.lt_iff_toInt_lt.mpr (by rw [e0]; exact y))
  have lt : x.toInt < 2 ^ 31 := by have := Int32.toInt_lt x; omega
  exact ⟨x.toInt.toNat, by omega, Int32.toInt_inj.mp (by rw [nIi (by omega)]; omega)⟩
theorem Cl.end' {E : xCl} {ex : Bool} {t np q n m s kb u sn N : Nat} {I C1 C2 W2 : Nat → Nat → Int32} {J J1 J2 : Nat → Nat → Int64} {P P1 : Nat → Nat → Nat} {yC yR : MethodName} {vC vR' : List Value} {r : Value} (h : Rel t np q n m s kb u sn I P) (hP : Ap P P1) (e1 : ∀ a k, ¬ ((80 ≤ a ∧ a ≤ 91) ∨ (a = 347 ∧ (k = 2 ∨ k = 52 ∨ k = 69 ∨ k = 70 ∨ k = 71)) ∨ (98 ≤ a ∧ a ≤ 106) ∨ (391 ≤ a ∧ a ≤ 394) ∨ (396 ≤ a ∧ a ≤ 399)) → C2 a k = I a k) (hc : xEx E ex N yC vC (SH, I, J, P) (some r) (SH, C1, J1, P1)) (hr : xEx E ex N yR vR' (SH, C1, J1, P1) (some r) (SH, wR C2 1 W2, J2, P1)) (hf : FX (vR I 0) W2) : ∃ r I1 J1 P1 I2 J2, xEx E ex N yC vC (SH, I, J, P) (some r) (SH, I1, J1, P1) ∧ xEx E ex N yR vR' (SH, I1, J1, P1) (some r) (SH, I2, J2, P1) ∧ RX I2 P1 :=
  ⟨r, _, J1, _, _, J2, hc, hr, t, np, q, n, m, s, kb, u, sn, h.g (ag_t e1 hf) hP (pt_t (h.2.2.2.2.2.2.1.2.2.2.2.2.c (fun k => e1 387 k (by omega))))⟩
theorem oI.c {I I0 I2 : Nat → Nat → Int32} {c : Nat → Int32} {e' : Int32} (h : oI I0 c I2) (e : ∀ a k, ¬ ((80 ≤ a ∧ a ≤ 91) ∨ (a = 347 ∧ k = 2) ∨ (98 ≤ a ∧ a ≤ 106)) → I0 a k = I a k) : ∀ a k, ¬ ((80 ≤ a ∧ a ≤ 91) ∨ (a = 347 ∧ (k = 2 ∨ k = 52 ∨ k = 69 ∨ k = 70 ∨ k = 71)) ∨ (98 ≤ a ∧ a ≤ 106) ∨ (391 ≤ a ∧ a ≤ 394) ∨ (396 ≤ a ∧ a ≤ 399)) → wE I2 e' a k = I a k := fun a k z => by
  unfold wE
  rw [xu_ne (by omega)]
  rcases h with rfl | rfl
  · rw [wO_o _ _ (by omega)]; exact e a k (by omega)
  · unfold rPl
    rw [xu_ne (by omega), xu_ne (by omega), xu_ne (by omega), wO_o _ _ (by omega)]; exact e a k (by omega)
theorem order_Cl {E : xCl} {ex : Bool} (x w y : Int32) : Cl E ex yX10_order [.ref 0, .int x, .int w, .int y] yX11_order [.ref 347, .int x, .int w, .int y] := by
  intro I J P hX N hN
  obtain ⟨t, np, q, n, m, s, kb, u, sn, h⟩ := hX
  have h1 := h.1
  have h5 := h.2.2.2.2.1
  have h7 := h.2.2.2.2.2.2.1
  have hp := h7.2.2.2.2.2
  have vv := h7.2.1
  have n12 := h7.1.1.1
  have ht := tl_c h1.1
  have vx : vR (xu I 347 2 0) 0 = vR I 0 := vR_x2 I 0
  have hvx : Vok (vR (xu I 347 2 0) 0) n := by rw [vx]; exact h7.rv.1
  have cn : ¬ okO n x w y → xEx E ex N yX10_order [.ref 0, .int x, .int w, .int y] (SH, I, J, P) (some (.int (-1))) (SH, I, J, P) := fun c => by
    have cc := k_order_n (E := E) (ex := ex) (I := I) (W := vB I 80) (J := J) h1.2.1 h1.1 h1.2.2.1 h1.2.2.2.2.2 h7.1.1 c 0
    rw [wB_vB] at cc
    exact x_le (by omega) cc
  by_cases c0 : x < 0
  · have rr := k_rorder_n (E := E) (ex := ex) (I := I) (e := I 347 52) (J := J) h1.2.1 rfl hvx (x := x) (Or.inl c0) w y 0
    rw [wE_id] at rr
    exact Cl.ro h (cn (fun z => z.1 c0)) (x_le (by omega) rr)
  · obtain ⟨A, hA31, rfl⟩ := nn_of c0
    have p12 : (2 : Nat) ^ n ≤ 2 ^ 12 := Nat.pow_le_pow_right (by omega) n12
    have lt : nI A < 1 <<< (nI n &&& 31) ↔ A < 2 ^ n := by rw [shl_n n12]; exact nI_lti hA31 (by omega)
    by_cases c1 : A < 2 ^ n
    · have e9 : ∀ j, j < n → vB I 56 9 j = xu I 347 2 0 385 j := fun j hj => by
        have := (vv.2.1 j hj).2.2.2.2.2.2.1
        rw [this, xu_ne (by omega)]
        show I 385 (12 * 0 + j) = _
        rw [Nat.mul_zero, Nat.zero_add]
      have at' : nI A &&& (sTB (vB I 56) n ^^^ (-1)) = 0 ↔ rAT (xu I 347 2 0 385) n A := by
        rw [sub_at n12 c1]
        exact ⟨fun z j hj b => by rw [← e9 j hj]; exact z j hj b, fun z j hj b => by rw [e9 j hj]; exact z j hj b⟩
      by_cases c2 : nI A &&& (sTB (vB I 56) n ^^^ (-1)) = 0
      · by_cases c3 : (¬ w < 0 ∧ ¬ 9999 < w) ∧ ¬ y < 0
        · have ok : okO n (nI A) w y := ⟨c0, lt.mpr c1, c3.1.1, Int32.not_lt.mp c3.1.2, c3.2⟩
          obtain ⟨k, hk31, rfl⟩ := nn_of c3.2
          have hN : ∀ i, A.testBit i = true → vB I 56 9 i = 0 := fun i hi => by
            have hin : i < n := Classical.byContradiction fun z => by
              rw [Nat.testBit_lt_two_pow (Nat.lt_of_lt_of_le c1 (Nat.pow_le_pow_right (by omega) (by omega)))] at hi
              exact absurd hi (by decide)
            exact (sub_at n12 c1).mp c2 i hin hi
          have pl := pcT_le A 12
          have bc : nI k < bC (nI A) ↔ k < pcT A 12 := by
            rw [bC_pc (by omega)]; exact nI_lti hk31 (by omega)
          have oe := order_e (pay_ok vv h7.1.1 h7.1.2.2.2.1 (Lv I t) w c1 hN) (by omega) hk31
          by_cases c4 : k < pcT A 12
          · obtain ⟨ch2, dd2, W2, J1, cc, -⟩ := k_order (E := E) (ex := ex) (I := I) (W := vB I 80) (J := J) h1.2.1 h1.1 h1.2.2.1 h1.2.2.2.2.2 h7.1.1 h5.1 c1 ok c2 hN (bc.mpr c4) c4 0
            rw [wB_vB, Lv_c (I := I) (fun a k z => (xu_ne (by omega)).trans (xu_ne (by omega))), oe.1 c4] at cc
            generalize eC : wB (wC (xu (xu I 103 2 (nI A)) 103 3 w) ch2 dd2) 80 W2 = C1 at cc
            have e0 : ∀ a k, ¬ ((80 ≤ a ∧ a ≤ 91) ∨ (98 ≤ a ∧ a ≤ 106)) → C1 a k = I a k := fun a k z => by
              rw [← eC, wB_o _ _ _ (by omega), wC_o _ _ _ (by omega) (by omega), xu_ne (by omega), xu_ne (by omega)]
            have i0 : ∀ a k, ¬ ((80 ≤ a ∧ a ≤ 91) ∨ (a = 347 ∧ k = 2) ∨ (98 ≤ a ∧ a ≤ 106)) → xu C1 347 2 0 a k = I a k := fun a k z => (xu_ne (by omega)).trans (e0 a k (by omega))
            have ev : vR (xu C1 347 2 0) 0 = vR I 0 := vR_c (fun a k z1 z2 => i0 a k (by omega))
            obtain ⟨c5, I2, e', J2, W3, hI2, rr, -, hf⟩ := k_rorder (E := E) (ex := ex) (I := C1) (e := C1 347 52) (J := J1) (h1.2.1.xb hb80 (t + 1)) rfl (by rw [ev]; exact h7.rv.1) (by rw [ev]; exact h7.rv.2) (hp.c (fun k => i0 387 k (by omega))) (h5.2.1.of (fun a z1 z2 => funext fun k => i0 a k (by omega))) (Lv_7 I t) c1 (by
              have := at'.mp c2
              rwa [show xu I 347 2 0 385 = xu C1 347 2 0 385 from funext fun j => ((xu_ne (by omega)).trans (i0 385 j (by omega)).symm)] at this) c3.1 c3.2 0
            rw [wE_id, ev] at rr
            rw [ev] at hf
            exact Cl.end' h (fun a k z => xu_ne z) (hI2.c i0) (x_le (by omega) cc) (x_le (by omega) rr) hf
          · have cc := k_order_k (E := E) (ex := ex) (I := I) (W := vB I 80) (J := J) h1.2.1 h1.1 h1.2.2.1 h1.2.2.2.2.2 h7.1.1 ok c2 (fun z => c4 (bc.mp z)) 0
            rw [wB_vB] at cc
            obtain ⟨c5, I2, e', J2, W3, hI2, rr, -, hf⟩ := k_rorder (E := E) (ex := ex) (I := I) (e := I 347 52) (J := J) h1.2.1 rfl hvx (by rw [vx]; exact h7.rv.2) (hp.x2 2 0) h5.2.1.x2 (Lv_7 I t) c1 (at'.mp c2) c3.1 c3.2 0
            rw [wE_id, vx, oe.2 (by omega)] at rr
            rw [vx] at hf
            exact Cl.end' h (Ap.rf P) (hI2.c (fun a k z => xu_ne (by omega))) (x_le (by omega) cc) (x_le (by omega) rr) hf
        · have rr := k_rorder_w (E := E) (ex := ex) (I := I) (e := I 347 52) (J := J) h1.2.1 rfl hvx c1 (at'.mp c2) (w := w) (k := y) c3 0
          rw [wE_id] at rr
          exact Cl.ro h (cn (fun z => c3 ⟨⟨z.2.2.1, Int32.not_lt.mpr z.2.2.2.1⟩, z.2.2.2.2⟩)) (x_le (by omega) rr)
      · have rr := k_rorder_f (E := E) (ex := ex) (I := I) (e := I 347 52) (J := J) h1.2.1 rfl hvx c1 (fun z => c2 (at'.mpr z)) w y 0
        rw [wE_id] at rr
        by_cases ok : okO n (nI A) w y
        · have cc := k_order_t (E := E) (ex := ex) (I := I) (W := vB I 80) (J := J) h1.2.1 h1.1 h1.2.2.1 h1.2.2.2.2.2 h7.1.1 ok c2 0
          rw [wB_vB] at cc
          exact Cl.ro h (x_le (by omega) cc) (x_le (by omega) rr)
        · exact Cl.ro h (cn ok) (x_le (by omega) rr)
    · have rr := k_rorder_n (E := E) (ex := ex) (I := I) (e := I 347 52) (J := J) h1.2.1 rfl hvx (x := nI A) (Or.inr (fun z => c1 ((shr0 hA31 n12).mp z))) w y 0
      rw [wE_id] at rr
      exact Cl.ro h (cn (fun z => c1 (lt.mp z.2.1))) (x_le (by omega) rr)
