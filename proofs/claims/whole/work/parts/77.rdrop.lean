/-! the reference: loan, drop -/
theorem t64_99 : (99 : Int64) = (99 : Int32).toInt64 := by decide
set_option maxHeartbeats 2000000 in
theorem l_rloan {E : xCl} {ex : Bool} {I V : Nat → Nat → Int32} {J : Nat → Nat → Int64} {P : Nat → Nat → Nat} (hP : Pok P) {L : Nat → (Nat → Int64) → Int64} (hL : LwR I L) (h7 : L7 L) (B w : Int32) (d : Nat) : ∀ c j e1 J1, j + c = 1000 → JokR J J1 → xR (xEx E ex (d + 6)) ex none yX11_loan cX11_loan (some .int) 33 [some (.ref 347), some (.int w), some (.int B), some (.int (nI j))] [] (SH, wR (wE I e1) 0 V, J1, P) (QR (fun z => wR z 0 V) I J P (some (.int (rLn B (sLo V L) w c j)))) := by
  intro c
  induction c with
  | zero =>
    intro j e1 J1 hj hJ
    refine r_iload_n dX11_loan_33 rfl ?_
    refine r_sipush (v := 1000) dX11_loan_34 (by decide) ?_
    refine r_ic_ge 122 dX11_loan_37 (by decide) (fun c37 => ?_) (fun c37 => ?_)
    · refine r_bipush (v := (-2)) dX11_loan_122 (by decide) ?_
      exact r_iretq dX11_loan_124 rfl rfl (QR.mk (F := fun z => wR z 0 V) hJ)
    · exact absurd (by rw [show j = 1000 by omega]; decide) c37
  | succ c ih =>
    intro j e1 J1 hj hJ
    refine r_iload_n dX11_loan_33 rfl ?_
    refine r_sipush (v := 1000) dX11_loan_34 (by decide) ?_
    refine r_ic_ge 122 dX11_loan_37 (by decide) (fun c37 => ?_) (fun c37 => ?_)
    · exact absurd c37 (nI_ge (a := j) (b := 1000) (by omega) (by omega))
    · refine r_aload_n dX11_loan_40 rfl ?_
      refine r_getR dX11_loan_41 flX11_93 sh_347 (by decide) rfl (pf_347_50 hP) ?_
      refine r_iconst (v := 0) dX11_loan_44 (by decide) ?_
      refine r_iload_n dX11_loan_45 rfl ?_
      refine r_i2l dX11_loan_46 ?_
      refine r_las dX11_loan_47 sh_374 (vp_in_iff.mpr (by decide)) ?_
      refine r_aload_n dX11_loan_48 rfl ?_
      refine r_getR dX11_loan_49 flX11_93 sh_347 (by decide) rfl (pf_347_50 hP) ?_
      refine r_iconst (v := 1) dX11_loan_52 (by decide) ?_
      refine r_lconst (v := 0) dX11_loan_53 (by decide) ?_
      refine r_las dX11_loan_54 sh_374 (vp_in_iff.mpr (by decide)) ?_
      refine r_aload_n dX11_loan_55 rfl ?_
      refine r_getR dX11_loan_56 flX11_93 sh_347 (by decide) rfl (pf_347_50 hP) ?_
      refine r_iconst (v := 2) dX11_loan_59 (by decide) ?_
      refine r_lconst (v := 0) dX11_loan_60 (by decide) ?_
      refine r_las dX11_loan_61 sh_374 (vp_in_iff.mpr (by decide)) ?_
      refine r_aload_n dX11_loan_62 rfl ?_
      refine r_getR dX11_loan_63 flX11_93 sh_347 (by decide) rfl (pf_347_50 hP) ?_
      refine r_iconst (v := 3) dX11_loan_66 (by decide) ?_
      refine r_ldc2_w dX11_loan_67 kcX11_503 ?_
      refine r_las dX11_loan_70 sh_374 (vp_in_iff.mpr (by decide)) ?_
      refine r_aload_n dX11_loan_71 rfl ?_
      refine r_getR dX11_loan_72 flX11_93 sh_347 (by decide) rfl (pf_347_50 hP) ?_
      refine r_iconst (v := 4) dX11_loan_75 (by decide) ?_
      refine r_aload_n dX11_loan_76 rfl ?_
      refine r_getR dX11_loan_77 flX11_139 sh_347 (by decide) rfl (pf_347_66 hP) ?_
      refine r_iconst (v := 0) dX11_loan_80 (by decide) ?_
      refine r_ialv dX11_loan_81 sh_389 ix2_0 (rS15_0 _ _) ?_
      refine r_i2l dX11_loan_82 ?_
      refine r_las dX11_loan_83 sh_374 (vp_in_iff.mpr (by decide)) ?_
      refine r_aload_n dX11_loan_84 rfl ?_
      refine r_getR dX11_loan_85 flX11_93 sh_347 (by decide) rfl (pf_347_50 hP) ?_
      refine r_iconst (v := 5) dX11_loan_88 (by decide) ?_
      refine r_lconst (v := 0) dX11_loan_89 (by decide) ?_
      refine r_las dX11_loan_90 sh_374 (vp_in_iff.mpr (by decide)) ?_
      refine r_aload_n dX11_loan_91 rfl ?_
      refine r_getR dX11_loan_92 flX11_93 sh_347 (by decide) rfl (pf_347_50 hP) ?_
      refine r_bipush (v := 6) dX11_loan_95 (by decide) ?_
      refine r_lconst (v := 0) dX11_loan_97 (by decide) ?_
      refine r_las dX11_loan_98 sh_374 (vp_in_iff.mpr (by decide)) ?_
      refine r_iload_n dX11_loan_99 rfl ?_
      refine r_aload_n dX11_loan_100 rfl ?_
      refine r_iconst (v := 0) dX11_loan_101 (by decide) ?_
      refine r_iload_n dX11_loan_102 rfl ?_
      refine r_sipush (v := 9999) dX11_loan_103 (by decide) ?_
      have eN := wN_7 J1 363 (nI j) 0 0 99 (V 15 0) 0 0
      obtain ⟨e9, J9, hx9, hj9⟩ := k_rbl (E := E) (ex := ex) (I := I) (V := V) (e := e1) (J := J1) hP (b := 0) hL h7 (Nok_7 (nI j) 0 0 99 (V 15 0) 0 0) (lw := 0) (w := 0) (by decide) (by decide) (nI j) 9999 (d + 2)
      rw [← eN] at hx9
      refine r_cV3i dX11_loan_106 vlX11_435 sh_347 (Nat.le_of_ble_eq_true rfl) hx9 ?_
      refine r_iadd dX11_loan_109 ?_
      refine r_iload_n dX11_loan_110 rfl ?_
      refine r_ic_lt 116 dX11_loan_111 (by decide) (fun c111 => ?_) (fun c111 => ?_)
      · refine r_iinc3 (v := 1) dX11_loan_116 (by decide) rfl ?_
        refine r_goto 33 dX11_loan_119 (by decide) ?_
        rw [nI_1, rLn, if_pos (show B + sLo V L (nI j) < w from c111)]; exact ih (j + 1) _ _ (by omega) (hJ.tr hj9)
      · refine r_iload_n dX11_loan_114 rfl ?_
        exact r_iretq dX11_loan_115 rfl rfl (by rw [rLn, if_neg (show ¬ B + sLo V L (nI j) < w from c111)]; exact QR.mk (F := fun z => wR z 0 V) (hJ.tr hj9))
set_option maxHeartbeats 2000000 in
theorem k_rloan {E : xCl} {ex : Bool} {I I0 V : Nat → Nat → Int32} {e : Int32} {J : Nat → Nat → Int64} {P : Nat → Nat → Nat} (hP : Pok P) (hI : xu I 347 2 0 = I0)  {n : Nat} (hv : Vok V n) (hk : Tok V n) {L : Nat → (Nat → Int64) → Int64} (hL : LwR I0 L) (h7 : L7 L) (w : Int32) (d : Nat) : ∃ e' J', xEx E ex (d + 7) yX11_loan [.ref 347, .int w] (SH, wR (wE I e) 0 V, J, P) (some (.int (if ¬ w < 1 ∧ ¬ 9999 < w then (if sBr V L n < w then rLn (sBr V L n) (sLo V L) w 999 1 else 0) else -1))) (SH, wR (wE I0 e') 0 V, J', P) ∧ JokR J J' := by
  refine QR.use (F := fun z => wR z 0 V) (I := I0) (x_enterq (d := d + 6) cqX11_loan [some (.ref 347), some (.int w), none, none] rfl (by simp [lg_sl, Value.category]) ?_)
  refine r_aload_n dX11_loan_0 rfl ?_
  refine r_iconst (v := 0) dX11_loan_1 (by decide) ?_
  refine r_putIv dX11_loan_2 flX11_193 ⟨_, _, _, rfl, Or.inl rfl⟩ sh_347 (by decide) rfl rfl rfl ((wR_xo _ _ _ (by decide) _ _).trans (congrArg (fun z => wR z _ _) ((wE_c _ _ _ (by decide)).trans (congrArg (fun z => wE z _) hI)))) ?_
  refine r_iload_n dX11_loan_5 rfl ?_
  refine r_iconst (v := 1) dX11_loan_6 (by decide) ?_
  refine r_sipush (v := 9999) dX11_loan_7 (by decide) ?_
  by_cases h10 : ¬ w < 1 ∧ ¬ 9999 < w
  · refine r_cS3i dX11_loan_10 slX11_238 (Nat.le_of_ble_eq_true rfl) (k_isIn_t h10 (d + 5)) ?_
    refine r_if_ne 18 dX11_loan_13 (by decide) (fun c13 => ?_) (fun c13 => ?_)
    · refine r_aload_n dX11_loan_18 rfl ?_
      refine r_iconst (v := 0) dX11_loan_19 (by decide) ?_
      obtain ⟨e9, J9, hx9, hj9⟩ := k_rbridge (E := E) (ex := ex) (I := I0) (V := V) (e := e) (J := J) hP (b := 0) (by decide) hv hk hL h7 d
      refine r_cV1i dX11_loan_20 vlX11_443 sh_347 (Nat.le_of_ble_eq_true rfl) hx9 ?_
      refine r_istore_n2 dX11_loan_23 rfl ?_
      refine r_iload_n dX11_loan_24 rfl ?_
      refine r_iload_n dX11_loan_25 rfl ?_
      refine r_ic_lt 31 dX11_loan_26 (by decide) (fun c26 => ?_) (fun c26 => ?_)
      · refine r_iconst (v := 1) dX11_loan_31 (by decide) ?_
        refine r_istore_n3 dX11_loan_32 rfl ?_
        rw [if_pos h10, if_pos c26]; have z := l_rloan (E := E) (ex := ex) (I := I0) (V := V) (J := J) hP hL h7 (sBr V L n) w d 999 1 e9 J9 (by omega) hj9; exact z
      · refine r_iconst (v := 0) dX11_loan_29 (by decide) ?_
        exact r_iretq dX11_loan_30 rfl rfl (by rw [if_pos h10, if_neg c26]; exact QR.mk (F := fun z => wR z 0 V) hj9)
    · exact absurd c13 (by decide)
  · refine r_cS3i dX11_loan_10 slX11_238 (Nat.le_of_ble_eq_true rfl) (k_isIn_f h10 (d + 5)) ?_
    refine r_if_ne 18 dX11_loan_13 (by decide) (fun c13 => ?_) (fun c13 => ?_)
    · exact absurd c13 (by decide)
    · refine r_iconst (v := (-1)) dX11_loan_16 (by decide) ?_
      exact r_iretq dX11_loan_17 rfl rfl (by rw [if_neg h10]; exact QR.mk (F := fun z => wR z 0 V) (JokR.rf J))
theorem m120 (x : Int32) : (12 : Int32) * 0 + x = x := by rw [show (12 : Int32) * 0 = 0 from by decide, z32]
set_option maxHeartbeats 1000000 in
theorem k_isTh0I_t {E : xCl} {ex : Bool} {I : Nat → Nat → Int32} {J : Nat → Nat → Int64} {P : Nat → Nat → Nat} (hP : Pok P) {x : Int32} (hx : vp_in x 12) (h : I 385 x.toNatClampNeg = 0) (d : Nat) : xEx E ex (d + 1) yX11_isThere [.ref 347, .int 0, .int x] (SH, I, J, P) (some (.int 1)) (SH, I, J, P) := by
  refine x_enter cqX11_isThere [some (.ref 347), some (.int 0), some (.int x)] rfl (by simp [lg_sl, Value.category]) ?_
  refine r_aload_n dX11_isThere_0 rfl ?_
  refine r_getR dX11_isThere_1 flX11_127 sh_347 (by decide) rfl (pf_347_62 hP) ?_
  refine r_bipush (v := 12) dX11_isThere_4 (by decide) ?_
  refine r_iload_n dX11_isThere_6 rfl ?_
  refine r_imul dX11_isThere_7 ?_
  refine r_iload_n dX11_isThere_8 rfl ?_
  refine r_iadd dX11_isThere_9 ?_
  refine r_ialv dX11_isThere_10 sh_385 (by rw [m120]; exact iz12 hx) (congrArg (I 385) (congrArg Int32.toNatClampNeg (m120 x))) ?_
  refine r_if_ne 18 dX11_isThere_11 (by decide) (fun c11 => ?_) (fun c11 => ?_)
  · exact absurd h c11
  · refine r_iconst (v := 1) dX11_isThere_14 (by decide) ?_
    refine r_goto 19 dX11_isThere_15 (by decide) ?_
    exact r_iret dX11_isThere_19 rfl rfl rfl rfl
set_option maxHeartbeats 1000000 in
theorem k_isTh0I_f {E : xCl} {ex : Bool} {I : Nat → Nat → Int32} {J : Nat → Nat → Int64} {P : Nat → Nat → Nat} (hP : Pok P) {x : Int32} (hx : vp_in x 12) (h : ¬ I 385 x.toNatClampNeg = 0) (d : Nat) : xEx E ex (d + 1) yX11_isThere [.ref 347, .int 0, .int x] (SH, I, J, P) (some (.int 0)) (SH, I, J, P) := by
  refine x_enter cqX11_isThere [some (.ref 347), some (.int 0), some (.int x)] rfl (by simp [lg_sl, Value.category]) ?_
  refine r_aload_n dX11_isThere_0 rfl ?_
  refine r_getR dX11_isThere_1 flX11_127 sh_347 (by decide) rfl (pf_347_62 hP) ?_
  refine r_bipush (v := 12) dX11_isThere_4 (by decide) ?_
  refine r_iload_n dX11_isThere_6 rfl ?_
  refine r_imul dX11_isThere_7 ?_
  refine r_iload_n dX11_isThere_8 rfl ?_
  refine r_iadd dX11_isThere_9 ?_
  refine r_ialv dX11_isThere_10 sh_385 (by rw [m120]; exact iz12 hx) (congrArg (I 385) (congrArg Int32.toNatClampNeg (m120 x))) ?_
  refine r_if_ne 18 dX11_isThere_11 (by decide) (fun c11 => ?_) (fun c11 => ?_)
  · refine r_iconst (v := 0) dX11_isThere_18 (by decide) ?_
    exact r_iret dX11_isThere_19 rfl rfl rfl rfl
  · exact absurd c11 h
/-- the strands of a set are there -/
def rAT (h : Nat → Int32) (n S : Nat) : Prop := ∀ j, j < n → S.testBit j = true → h j = 0
set_option maxHeartbeats 2000000 in
theorem l_arTh {E : xCl} {ex : Bool} {I : Nat → Nat → Int32} {J : Nat → Nat → Int64} {P : Nat → Nat → Nat} (hP : Pok P) {n : Nat} (hn12 : n ≤ 12) (hn : I 378 0 = nI n) {S : Nat} (hS31 : S < 2 ^ 31) (r : Int32) (d : Nat) : ∀ c j, j + c = n → ((∀ k, j ≤ k → k < n → S.testBit k = true → I 385 k = 0) → r = 1) → (¬ (∀ k, j ≤ k → k < n → S.testBit k = true → I 385 k = 0) → r = 0) → xR (xEx E ex (d + 1)) ex none yX11_areThere cX11_areThere (some .boolean) 19 [some (.ref 347), some (.int (nI S)), some (.int (nI j))] [] (SH, I, J, P) (xEq (some (.int r)) (SH, I, J, P)) := by
  intro c
  induction c with
  | zero =>
    intro j hj h1 h0
    refine r_iload_n dX11_areThere_19 rfl ?_
    refine r_aload_n dX11_areThere_20 rfl ?_
    refine r_getR dX11_areThere_21 flX11_106 sh_347 (by decide) rfl (pf_347_55 hP) ?_
    refine r_iconst (v := 0) dX11_areThere_24 (by decide) ?_
    refine r_ialv dX11_areThere_25 sh_378 (vp_in_iff.mpr (by decide)) hn ?_
    refine r_ic_ge 54 dX11_areThere_26 (by decide) (fun c26 => ?_) (fun c26 => ?_)
    · refine r_iconst (v := 1) dX11_areThere_54 (by decide) ?_
      exact r_iret dX11_areThere_55 rfl rfl (by rw [h1 (fun k h2 h3 => absurd h2 (by omega))]) rfl
    · exact absurd (nI_le (by omega) (by omega)) c26
  | succ c ih =>
    intro j hj h1 h0
    refine r_iload_n dX11_areThere_19 rfl ?_
    refine r_aload_n dX11_areThere_20 rfl ?_
    refine r_getR dX11_areThere_21 flX11_106 sh_347 (by decide) rfl (pf_347_55 hP) ?_
    refine r_iconst (v := 0) dX11_areThere_24 (by decide) ?_
    refine r_ialv dX11_areThere_25 sh_378 (vp_in_iff.mpr (by decide)) hn ?_
    refine r_ic_ge 54 dX11_areThere_26 (by decide) (fun c26 => ?_) (fun c26 => ?_)
    · exact absurd c26 (nI_ge (by omega) (by omega))
    · refine r_iload_n dX11_areThere_29 rfl ?_
      refine r_iload_n dX11_areThere_30 rfl ?_
      by_cases h31 : (nI S >>> (nI j &&& 31)) &&& 1 = 1
      · refine r_cS2i dX11_areThere_31 slX11_485 (Nat.le_of_ble_eq_true rfl) (k_isOf_t h31 d) ?_
        have b31 := (bz_1 hS31 (by omega)).mp h31
        refine r_if_eq 48 dX11_areThere_34 (by decide) (fun c34 => ?_) (fun c34 => ?_)
        · exact absurd c34 (by decide)
        · refine r_aload_n dX11_areThere_37 rfl ?_
          refine r_iconst (v := 0) dX11_areThere_38 (by decide) ?_
          refine r_iload_n dX11_areThere_39 rfl ?_
          by_cases h40 : I 385 (nI j).toNatClampNeg = 0
          · refine r_cV2i dX11_areThere_40 vlX11_418 sh_347 (Nat.le_of_ble_eq_true rfl) (k_isTh0I_t hP (vp_in_nI (by omega) (by omega)) h40 d) ?_
            have q40 : I 385 j = 0 := by rw [nI_clamp (by omega)] at h40; exact h40
            refine r_if_ne 48 dX11_areThere_43 (by decide) (fun c43 => ?_) (fun c43 => ?_)
            · refine r_iinc2 (v := 1) dX11_areThere_48 (by decide) rfl ?_
              refine r_goto 19 dX11_areThere_51 (by decide) ?_
              rw [nI_1]; exact ih (j + 1) (by omega) (fun z => h1 (fun k h2 h3 h4 => if e : k = j then (by subst e; exact (fun _ => q40) h4) else z k (by omega) h3 h4)) (fun z => h0 (fun y => z (fun k h2 h3 h4 => y k (by omega) h3 h4)))
            · exact absurd c43 (by decide)
          · refine r_cV2i dX11_areThere_40 vlX11_418 sh_347 (Nat.le_of_ble_eq_true rfl) (k_isTh0I_f hP (vp_in_nI (by omega) (by omega)) h40 d) ?_
            have q40 : ¬ I 385 j = 0 := by rw [nI_clamp (by omega)] at h40; exact h40
            refine r_if_ne 48 dX11_areThere_43 (by decide) (fun c43 => ?_) (fun c43 => ?_)
            · exact absurd c43 (by decide)
            · refine r_iconst (v := 0) dX11_areThere_46 (by decide) ?_
              exact r_iret dX11_areThere_47 rfl rfl (by rw [h0 (fun z => q40 (z j (Nat.le_refl _) (by omega) b31))]) rfl
      · refine r_cS2i dX11_areThere_31 slX11_485 (Nat.le_of_ble_eq_true rfl) (k_isOf_f h31 d) ?_
        have b31 : ¬ S.testBit j = true := fun z => h31 ((bz_1 hS31 (by omega)).mpr z)
        refine r_if_eq 48 dX11_areThere_34 (by decide) (fun c34 => ?_) (fun c34 => ?_)
        · refine r_iinc2 (v := 1) dX11_areThere_48 (by decide) rfl ?_
          refine r_goto 19 dX11_areThere_51 (by decide) ?_
          rw [nI_1]; exact ih (j + 1) (by omega) (fun z => h1 (fun k h2 h3 h4 => if e : k = j then (by subst e; exact (fun y => absurd y b31) h4) else z k (by omega) h3 h4)) (fun z => h0 (fun y => z (fun k h2 h3 h4 => y k (by omega) h3 h4)))
        · exact absurd c34 (by decide)
theorem shr0 {S n : Nat} (hS : S < 2 ^ 31) (hn : n ≤ 12) : (nI S >>> (nI n &&& 31) = 0) ↔ S < 2 ^ n := by
  rw [bz_shr hS (by omega), show (0 : Int32) = nI 0 from rfl, nI_eq (Nat.lt_of_le_of_lt (Nat.shiftRight_le _ _) hS) (by decide), Nat.shiftRight_eq_div_pow, Nat.div_eq_zero_iff]
  constructor
  · rintro (h | h)
    · exact absurd h (Nat.ne_of_gt (Nat.two_pow_pos n))
    · exact h
  · exact Or.inr
set_option maxHeartbeats 1000000 in
theorem k_arTh_t {E : xCl} {ex : Bool} {I : Nat → Nat → Int32} {J : Nat → Nat → Int64} {P : Nat → Nat → Nat} (hP : Pok P) {n : Nat} (hn12 : n ≤ 12) (hn : I 378 0 = nI n) {S : Nat} (hS31 : S < 2 ^ 31) (hS : S < 2 ^ n) (h : rAT (I 385) n S) (d : Nat) : xEx E ex (d + 2) yX11_areThere [.ref 347, .int (nI S)] (SH, I, J, P) (some (.int 1)) (SH, I, J, P) := by
  refine x_enter cqX11_areThere [some (.ref 347), some (.int (nI S)), none] rfl (by simp [lg_sl, Value.category]) ?_
  refine r_iload_n dX11_areThere_0 rfl ?_
  refine r_if_lt 15 dX11_areThere_1 (by decide) (fun c1 => ?_) (fun c1 => ?_)
  · exact absurd c1 (nI_pos hS31)
  · refine r_iload_n dX11_areThere_4 rfl ?_
    refine r_aload_n dX11_areThere_5 rfl ?_
    refine r_getR dX11_areThere_6 flX11_106 sh_347 (by decide) rfl (pf_347_55 hP) ?_
    refine r_iconst (v := 0) dX11_areThere_9 (by decide) ?_
    refine r_ialv dX11_areThere_10 sh_378 (vp_in_iff.mpr (by decide)) hn ?_
    refine r_ishr dX11_areThere_11 ?_
    refine r_if_eq 17 dX11_areThere_12 (by decide) (fun c12 => ?_) (fun c12 => ?_)
    · refine r_iconst (v := 0) dX11_areThere_17 (by decide) ?_
      refine r_istore_n2 dX11_areThere_18 rfl ?_
      exact l_arTh hP hn12 hn hS31 1 d n 0 (Nat.zero_add _) (fun _ => rfl) (fun z => absurd (fun k _ h3 h4 => h k h3 h4) z)
    · exact absurd ((shr0 hS31 hn12).mpr hS) c12
set_option maxHeartbeats 1000000 in
theorem k_arTh_f {E : xCl} {ex : Bool} {I : Nat → Nat → Int32} {J : Nat → Nat → Int64} {P : Nat → Nat → Nat} (hP : Pok P) {n : Nat} (hn12 : n ≤ 12) (hn : I 378 0 = nI n) {S : Nat} (hS31 : S < 2 ^ 31) (hS : S < 2 ^ n) (h : ¬ rAT (I 385) n S) (d : Nat) : xEx E ex (d + 2) yX11_areThere [.ref 347, .int (nI S)] (SH, I, J, P) (some (.int 0)) (SH, I, J, P) := by
  refine x_enter cqX11_areThere [some (.ref 347), some (.int (nI S)), none] rfl (by simp [lg_sl, Value.category]) ?_
  refine r_iload_n dX11_areThere_0 rfl ?_
  refine r_if_lt 15 dX11_areThere_1 (by decide) (fun c1 => ?_) (fun c1 => ?_)
  · exact absurd c1 (nI_pos hS31)
  · refine r_iload_n dX11_areThere_4 rfl ?_
    refine r_aload_n dX11_areThere_5 rfl ?_
    refine r_getR dX11_areThere_6 flX11_106 sh_347 (by decide) rfl (pf_347_55 hP) ?_
    refine r_iconst (v := 0) dX11_areThere_9 (by decide) ?_
    refine r_ialv dX11_areThere_10 sh_378 (vp_in_iff.mpr (by decide)) hn ?_
    refine r_ishr dX11_areThere_11 ?_
    refine r_if_eq 17 dX11_areThere_12 (by decide) (fun c12 => ?_) (fun c12 => ?_)
    · refine r_iconst (v := 0) dX11_areThere_17 (by decide) ?_
      refine r_istore_n2 dX11_areThere_18 rfl ?_
      exact l_arTh hP hn12 hn hS31 0 d n 0 (Nat.zero_add _) (fun z => absurd (fun k h3 h4 => z k (Nat.zero_le _) h3 h4) h) (fun _ => rfl)
    · exact absurd ((shr0 hS31 hn12).mpr hS) c12
set_option maxHeartbeats 1000000 in
theorem k_arTh_n {E : xCl} {ex : Bool} {I : Nat → Nat → Int32} {J : Nat → Nat → Int64} {P : Nat → Nat → Nat} (hP : Pok P) {n : Nat} (hn12 : n ≤ 12) (hn : I 378 0 = nI n) {x : Int32} (hx : x < 0 ∨ ¬ x >>> (nI n &&& 31) = 0) (d : Nat) : xEx E ex (d + 1) yX11_areThere [.ref 347, .int x] (SH, I, J, P) (some (.int 0)) (SH, I, J, P) := by
  refine x_enter cqX11_areThere [some (.ref 347), some (.int x), none] rfl (by simp [lg_sl, Value.category]) ?_
  refine r_iload_n dX11_areThere_0 rfl ?_
  refine r_if_lt 15 dX11_areThere_1 (by decide) (fun c1 => ?_) (fun c1 => ?_)
  · refine r_iconst (v := 0) dX11_areThere_15 (by decide) ?_
    exact r_iret dX11_areThere_16 rfl rfl rfl rfl
  · refine r_iload_n dX11_areThere_4 rfl ?_
    refine r_aload_n dX11_areThere_5 rfl ?_
    refine r_getR dX11_areThere_6 flX11_106 sh_347 (by decide) rfl (pf_347_55 hP) ?_
    refine r_iconst (v := 0) dX11_areThere_9 (by decide) ?_
    refine r_ialv dX11_areThere_10 sh_378 (vp_in_iff.mpr (by decide)) hn ?_
    refine r_ishr dX11_areThere_11 ?_
    refine r_if_eq 17 dX11_areThere_12 (by decide) (fun c12 => ?_) (fun c12 => ?_)
    · exact absurd c12 (hx.resolve_left c1)
    · refine r_iconst (v := 0) dX11_areThere_15 (by decide) ?_
      exact r_iret dX11_areThere_16 rfl rfl rfl rfl
def rMo (w : Int32) : Nat → Int32
  | 0 => 0
  | j + 1 => rMo w j + bI w j
set_option maxHeartbeats 1000000 in
theorem l_manyOf {E : xCl} {ex : Bool} {I : Nat → Nat → Int32} {J : Nat → Nat → Int64} {P : Nat → Nat → Nat} (w : Int32) (d : Nat) : ∀ j, j ≤ 12 → xR (xEx E ex (d + 0)) ex none yX11_manyOf cX11_manyOf (some .int) 4 [some (.int w), some (.int (rMo w j)), some (.int (nI j))] [] (SH, I, J, P) (xEq (some (.int (rMo w 12))) (SH, I, J, P)) := by
  refine r_for (fun j => xR (xEx E ex (d + 0)) ex none yX11_manyOf cX11_manyOf (some .int) 4 [some (.int w), some (.int (rMo w j)), some (.int (nI j))] [] (SH, I, J, P) (xEq (some (.int (rMo w 12))) (SH, I, J, P))) _ ?_ ?_
  · intro j hj ih
    refine r_iload_n dX11_manyOf_4 rfl ?_
    refine r_bipush (v := 12) dX11_manyOf_5 (by decide) ?_
    refine r_ic_ge 24 dX11_manyOf_7 (by decide) (fun c7 => ?_) (fun c7 => ?_)
    · exact absurd c7 (lt12 hj)
    · refine r_iload_n dX11_manyOf_10 rfl ?_
      refine r_iload_n dX11_manyOf_11 rfl ?_
      refine r_iload_n dX11_manyOf_12 rfl ?_
      refine r_ishr dX11_manyOf_13 ?_
      refine r_iconst (v := 1) dX11_manyOf_14 (by decide) ?_
      refine r_iand dX11_manyOf_15 ?_
      refine r_iadd dX11_manyOf_16 ?_
      refine r_istore_n1 dX11_manyOf_17 rfl ?_
      refine r_iinc2 (v := 1) dX11_manyOf_18 (by decide) rfl ?_
      refine r_goto 4 dX11_manyOf_21 (by decide) ?_
      rw [nI_1]; exact ih
  · refine r_iload_n dX11_manyOf_4 rfl ?_
    refine r_bipush (v := 12) dX11_manyOf_5 (by decide) ?_
    refine r_ic_ge 24 dX11_manyOf_7 (by decide) (fun c7 => ?_) (fun c7 => ?_)
    · refine r_iload_n dX11_manyOf_24 rfl ?_
      exact r_iret dX11_manyOf_25 rfl rfl rfl rfl
    · exact absurd (by decide) c7
set_option maxHeartbeats 1000000 in
theorem k_manyOf {E : xCl} {ex : Bool} {I : Nat → Nat → Int32} {J : Nat → Nat → Int64} {P : Nat → Nat → Nat} (w : Int32) (d : Nat) : xEx E ex (d + 1) yX11_manyOf [.int w] (SH, I, J, P) (some (.int (rMo w 12))) (SH, I, J, P) := by
  refine x_enter cqX11_manyOf [some (.int w), none, none] rfl (by simp [lg_sl, Value.category]) ?_
  refine r_iconst (v := 0) dX11_manyOf_0 (by decide) ?_
  refine r_istore_n1 dX11_manyOf_1 rfl ?_
  refine r_iconst (v := 0) dX11_manyOf_2 (by decide) ?_
  refine r_istore_n2 dX11_manyOf_3 rfl ?_
  exact l_manyOf w d 0 (Nat.zero_le _)
