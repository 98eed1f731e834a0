/-! the reference: sets of strands paid -/
def pV (V : Nat → Nat → Int32) (S : Nat) : Nat → Nat → Nat → Int32
  | 0 => V
  | j + 1 => if S.testBit j = true then sPay (pV V S j) j else pV V S j
theorem Vok.pv {V : Nat → Nat → Int32} {n : Nat} (h : Vok V n) (S : Nat) : ∀ j, Vok (pV V S j) n
  | 0 => h
  | j + 1 => by
    rw [pV]; split
    · exact (Vok.pv h S j).pay j
    · exact Vok.pv h S j
theorem Tok.pv {V : Nat → Nat → Int32} {n : Nat} (h : Tok V n) (S : Nat) : ∀ j, Tok (pV V S j) n
  | 0 => h
  | j + 1 => by
    rw [pV]; split
    · exact (Tok.pv h S j).pay j
    · exact Tok.pv h S j
theorem FX.pv {V W : Nat → Nat → Int32} (h : FX V W) (S : Nat) : ∀ j, FX V (pV W S j)
  | 0 => h
  | j + 1 => by
    rw [pV]; split
    · exact (FX.pv h S j).pay j
    · exact FX.pv h S j
/-- what was paid depends on the set alone -/
theorem pV_vS (V : Nat → Nat → Int32) (S : Nat) : ∀ j, j ≤ 12 → pV V S j = vS V (S % 2 ^ j)
  | 0, _ => by rw [pV, Nat.pow_zero, Nat.mod_one, vS_0]
  | j + 1, hj => by
    rw [pV, pV_vS V S j (by omega)]
    have hf : (S % 2 ^ j).testBit j = false := Nat.testBit_lt_two_pow (Nat.mod_lt _ (Nat.two_pow_pos j))
    have e : ∀ k, (S % 2 ^ (j + 1)).testBit k = ((S % 2 ^ j).testBit k || (decide (k = j) && S.testBit j)) := fun k => by
      rw [Nat.testBit_mod_two_pow, Nat.testBit_mod_two_pow]
      by_cases h1 : k < j
      · simp [h1, show k < j + 1 by omega, show ¬ k = j by omega]
      · by_cases h2 : k = j
        · subst h2; simp
        · simp [h1, h2, show ¬ k < j + 1 by omega]
    by_cases hb : S.testBit j = true
    · rw [if_pos hb, vS_pay V (by omega) hf]
      congr 1
      apply Nat.eq_of_testBit_eq
      intro k
      rw [or2_bit, e k, hb]
      simp [eq_comm]
    · rw [if_neg hb]
      congr 1
      apply Nat.eq_of_testBit_eq
      intro k
      rw [e k]
      simp [hb]
set_option maxHeartbeats 1000000 in
theorem l_laySet {E : xCl} {ex : Bool} {I : Nat → Nat → Int32} {e : Int32} {J : Nat → Nat → Int64} {P : Nat → Nat → Nat} (hP : Pok P) {n : Nat} (hv : Vok (vR I 0) n) {S : Nat} (hS31 : S < 2 ^ 31) (d : Nat) : ∀ j, j ≤ n → xR (xEx E ex (d + 2)) ex none yX11_laySet cX11_laySet none 6 [some (.ref 347), some (.int (nI S)), some (.int (nI j))] [] (SH, wR (wE (rPl I) e) 1 (pV (vR I 0) S j), J, P) (xEq none (SH, wR (wE (rPl I) e) 1 (pV (vR I 0) S n), J, P)) := by
  have hn := hv.1
  refine r_for (fun j => xR (xEx E ex (d + 2)) ex none yX11_laySet cX11_laySet none 6 [some (.ref 347), some (.int (nI S)), some (.int (nI j))] [] (SH, wR (wE (rPl I) e) 1 (pV (vR I 0) S j), J, P) (xEq none (SH, wR (wE (rPl I) e) 1 (pV (vR I 0) S n), J, P))) _ ?_ ?_
  · intro j hj ih
    have hvj := hv.pv S j
    refine r_iload_n dX11_laySet_6 rfl ?_
    refine r_aload_n dX11_laySet_7 rfl ?_
    refine r_getR dX11_laySet_8 flX11_106 sh_347 (by decide) rfl (pf_347_55 hP) ?_
    refine r_iconst (v := 1) dX11_laySet_11 (by decide) ?_
    refine r_ialv dX11_laySet_12 sh_378 ix2_1 (rS13_1 _ _) ?_
    refine r_ic_ge 36 dX11_laySet_13 (by decide) (fun c13 => ?_) (fun c13 => ?_)
    · exact absurd c13 (hvj.g hj)
    · refine r_iload_n dX11_laySet_16 rfl ?_
      refine r_iload_n dX11_laySet_17 rfl ?_
      by_cases h18 : (nI S >>> (nI j &&& 31)) &&& 1 = 1
      · refine r_cS2i dX11_laySet_18 slX11_485 (Nat.le_of_ble_eq_true rfl) (k_isOf_t h18 (d + 1)) ?_
        have b18 := (bz_1 hS31 (by omega)).mp h18
        refine r_if_eq 30 dX11_laySet_21 (by decide) (fun c21 => ?_) (fun c21 => ?_)
        · exact absurd c21 (by decide)
        · refine r_aload_n dX11_laySet_24 rfl ?_
          refine r_iconst (v := 1) dX11_laySet_25 (by decide) ?_
          refine r_iload_n dX11_laySet_26 rfl ?_
          refine r_cV2v dX11_laySet_27 vlX11_452 sh_347 (Nat.le_of_ble_eq_true rfl) (k_paid (b := 1) hP (by decide) hvj (hvj.i hj) (d + 1)) ?_
          refine r_iinc2 (v := 1) dX11_laySet_30 (by decide) rfl ?_
          refine r_goto 6 dX11_laySet_33 (by decide) ?_
          rw [hvj.c hj]; rw [nI_1]; rw [pV, if_pos b18] at ih; exact ih
      · refine r_cS2i dX11_laySet_18 slX11_485 (Nat.le_of_ble_eq_true rfl) (k_isOf_f h18 (d + 1)) ?_
        have b18 : ¬ S.testBit j = true := fun z => h18 ((bz_1 hS31 (by omega)).mpr z)
        refine r_if_eq 30 dX11_laySet_21 (by decide) (fun c21 => ?_) (fun c21 => ?_)
        · refine r_iinc2 (v := 1) dX11_laySet_30 (by decide) rfl ?_
          refine r_goto 6 dX11_laySet_33 (by decide) ?_
          rw [nI_1]; rw [pV, if_neg b18] at ih; exact ih
        · exact absurd c21 (by decide)
  · refine r_iload_n dX11_laySet_6 rfl ?_
    refine r_aload_n dX11_laySet_7 rfl ?_
    refine r_getR dX11_laySet_8 flX11_106 sh_347 (by decide) rfl (pf_347_55 hP) ?_
    refine r_iconst (v := 1) dX11_laySet_11 (by decide) ?_
    refine r_ialv dX11_laySet_12 sh_378 ix2_1 (rS13_1 _ _) ?_
    refine r_ic_ge 36 dX11_laySet_13 (by decide) (fun c13 => ?_) (fun c13 => ?_)
    · exact r_vret dX11_laySet_36 rfl rfl rfl
    · exact absurd (hv.pv S n).l c13
set_option maxHeartbeats 1000000 in
theorem k_laySet {E : xCl} {ex : Bool} {I : Nat → Nat → Int32} {e : Int32} {J : Nat → Nat → Int64} {P : Nat → Nat → Nat} (hP : Pok P) {n : Nat} (hv : Vok (vR I 0) n) {S : Nat} (hS31 : S < 2 ^ 31) (hp : Pt I) {I1 W : Nat → Nat → Int32} (hI1 : I1 = I ∨ I1 = rPl I) (hfx : FX (vR I 0) W) (d : Nat) : xEx E ex (d + 3) yX11_laySet [.ref 347, .int (nI S)] (SH, wR (wE I1 e) 1 W, J, P) none (SH, wR (wE (rPl I) e) 1 (pV (vR I 0) S n), J, P) := by
  refine x_enter cqX11_laySet [some (.ref 347), some (.int (nI S)), none] rfl (by simp [lg_sl, Value.category]) ?_
  refine r_aload_n dX11_laySet_0 rfl ?_
  refine r_cV0v dX11_laySet_1 vlX11_482 sh_347 (Nat.le_of_ble_eq_true rfl) (k_lay3 hP hp hI1 hfx d) ?_
  refine r_iconst (v := 0) dX11_laySet_4 (by decide) ?_
  refine r_istore_n2 dX11_laySet_5 rfl ?_
  exact l_laySet hP hv hS31 d 0 (Nat.zero_le n)
/-- from the set S the strand i can be paid, and the load is borne behind it -/
def rCP (V : Nat → Nat → Int32) (L : Nat → (Nat → Int64) → Int64) (n : Nat) (w : Int32) (S i : Nat) : Prop := ¬ pV V S n 1 (pV V S n 3 i).toNatClampNeg < pV V S n 5 i ∧ ¬ sBr (sPay (pV V S n) i) L n < w
set_option maxHeartbeats 2000000 in
theorem k_rcanPay {E : xCl} {ex : Bool} {I : Nat → Nat → Int32} {e : Int32} {J : Nat → Nat → Int64} {P : Nat → Nat → Nat} (hP : Pok P) {n : Nat} (hv : Vok (vR I 0) n) {S : Nat} (hS31 : S < 2 ^ 31) (hp : Pt I) {I1 W : Nat → Nat → Int32} (hI1 : I1 = I ∨ I1 = rPl I) (hfx : FX (vR I 0) W) (hk : Tok (vR I 0) n) {L : Nat → (Nat → Int64) → Int64} (hL : LwR I L) (h7 : L7 L) {i : Nat} (hi : i < n) (w r : Int32) (h1 : rCP (vR I 0) L n w S i → r = 1) (h0 : ¬ rCP (vR I 0) L n w S i → r = 0) (d : Nat) : ∃ e' J' W', xEx E ex (d + 7) yX11_canPay [.ref 347, .int (nI S), .int (nI i), .int w] (SH, wR (wE I1 e) 1 W, J, P) (some (.int r)) (SH, wR (wE (rPl I) e') 1 W', J', P) ∧ JokR J J' ∧ FX (vR I 0) W' := by
  have hvn := hv.pv S n
  refine QT.use (x_enterq (d := d + 6) cqX11_canPay [some (.ref 347), some (.int (nI S)), some (.int (nI i)), some (.int w)] rfl (by simp [lg_sl, Value.category]) ?_)
  refine r_aload_n dX11_canPay_0 rfl ?_
  refine r_iload_n dX11_canPay_1 rfl ?_
  refine r_cV1v dX11_canPay_2 vlX11_488 sh_347 (Nat.le_of_ble_eq_true rfl) (k_laySet hP hv hS31 hp hI1 hfx (d + 3)) ?_
  refine r_aload_n dX11_canPay_5 rfl ?_
  refine r_getR dX11_canPay_6 flX11_100 sh_347 (by decide) rfl (pf_347_53 hP) ?_
  refine r_bipush (v := 6) dX11_canPay_9 (by decide) ?_
  refine r_aload_n dX11_canPay_11 rfl ?_
  refine r_getR dX11_canPay_12 flX11_109 sh_347 (by decide) rfl (pf_347_56 hP) ?_
  refine r_iload_n dX11_canPay_15 rfl ?_
  refine r_ialv dX11_canPay_16 sh_379 (hvn.i hi) ((rR3 _ _ (hvn.i hi)).trans (congrArg ((pV (vR I 0) S n) 3) (hvn.c hi))) ?_
  refine r_iadd dX11_canPay_17 ?_
  refine r_ialv dX11_canPay_18 sh_376 (io6 (hvn.2.2.1 _)) (rO1 _ _ (hvn.2.2.1 _)) ?_
  refine r_aload_n dX11_canPay_19 rfl ?_
  refine r_getR dX11_canPay_20 flX11_121 sh_347 (by decide) rfl (pf_347_60 hP) ?_
  refine r_bipush (v := 12) dX11_canPay_23 (by decide) ?_
  refine r_iload_n dX11_canPay_25 rfl ?_
  refine r_iadd dX11_canPay_26 ?_
  refine r_ialv dX11_canPay_27 sh_383 (io12 (hvn.i hi)) ((rO5 _ _ (hvn.i hi)).trans (congrArg ((pV (vR I 0) S n) 5) (hvn.c hi))) ?_
  refine r_ic_ge 33 dX11_canPay_28 (by decide) (fun c28 => ?_) (fun c28 => ?_)
  · refine r_aload_n dX11_canPay_33 rfl ?_
    refine r_iconst (v := 1) dX11_canPay_34 (by decide) ?_
    refine r_iload_n dX11_canPay_35 rfl ?_
    refine r_cV2v dX11_canPay_36 vlX11_452 sh_347 (Nat.le_of_ble_eq_true rfl) (by have z := k_paid (E := E) (ex := ex) (I := rPl I) (V := (pV (vR I 0) S n)) (e := e) (J := J) (b := 1) hP (by decide) hvn (hvn.i hi) (d + 5); rw [hvn.c hi] at z; exact z) ?_
    refine r_aload_n dX11_canPay_39 rfl ?_
    refine r_iconst (v := 1) dX11_canPay_40 (by decide) ?_
    obtain ⟨e9, J9, hx9, hj9⟩ := k_rbridge (E := E) (ex := ex) (I := rPl I) (V := sPay (pV (vR I 0) S n) i) (e := e) (J := J) hP (b := 1) (by decide) (hvn.pay i) ((hk.pv S n).pay i) hL.pl h7 d
    refine r_cV1i dX11_canPay_41 vlX11_443 sh_347 (Nat.le_of_ble_eq_true rfl) hx9 ?_
    refine r_iload_n dX11_canPay_44 rfl ?_
    refine r_ic_lt 52 dX11_canPay_45 (by decide) (fun c45 => ?_) (fun c45 => ?_)
    · refine r_iconst (v := 0) dX11_canPay_52 (by decide) ?_
      exact r_iretq dX11_canPay_53 rfl rfl ⟨by rw [h0 (fun z => z.2 c45)], e9, J9, _, rfl, hj9, ((FX.rf _).pv S n).pay i⟩
    · refine r_iconst (v := 1) dX11_canPay_48 (by decide) ?_
      refine r_goto 53 dX11_canPay_49 (by decide) ?_
      exact r_iretq dX11_canPay_53 rfl rfl ⟨by rw [h1 ⟨Int32.not_lt.mpr c28, c45⟩], e9, J9, _, rfl, hj9, ((FX.rf _).pv S n).pay i⟩
  · refine r_iconst (v := 0) dX11_canPay_31 (by decide) ?_
    exact r_iretq dX11_canPay_32 rfl rfl ⟨by rw [h0 (fun z => z.1 (Int32.not_le.mp c28))], e, J, _, rfl, JokR.rf J, (FX.rf _).pv S n⟩
