/-! the reference: sags seen -/
theorem c4 {s : Nat} (h : s < 24) : (4 * nI s).toNatClampNeg = 4 * s := by rw [show (4 : Int32) = nI 4 from rfl, pk_mul, nI_clamp (by omega)]
theorem i4 {s : Nat} (h : s < 24) : vp_in (4 * nI s) 96 := by rw [show (4 : Int32) = nI 4 from rfl, pk_mul]; exact vp_in_nI (by omega) (by omega)
theorem c41 {s : Nat} (h : s < 24) : (4 * nI s + 1).toNatClampNeg = 4 * s + 1 := by rw [show (4 : Int32) = nI 4 from rfl, show (1 : Int32) = nI 1 from rfl, pk_mul, nI_add, nI_clamp (by omega)]
theorem i41 {s : Nat} (h : s < 24) : vp_in (4 * nI s + 1) 96 := by rw [show (4 : Int32) = nI 4 from rfl, show (1 : Int32) = nI 1 from rfl, pk_mul, nI_add]; exact vp_in_nI (by omega) (by omega)
theorem c42 {s : Nat} (h : s < 24) : (4 * nI s + 2).toNatClampNeg = 4 * s + 2 := by rw [show (4 : Int32) = nI 4 from rfl, show (2 : Int32) = nI 2 from rfl, pk_mul, nI_add, nI_clamp (by omega)]
theorem i42 {s : Nat} (h : s < 24) : vp_in (4 * nI s + 2) 96 := by rw [show (4 : Int32) = nI 4 from rfl, show (2 : Int32) = nI 2 from rfl, pk_mul, nI_add]; exact vp_in_nI (by omega) (by omega)
theorem c43 {s : Nat} (h : s < 24) : (4 * nI s + 3).toNatClampNeg = 4 * s + 3 := by rw [show (4 : Int32) = nI 4 from rfl, show (3 : Int32) = nI 3 from rfl, pk_mul, nI_add, nI_clamp (by omega)]
theorem i43 {s : Nat} (h : s < 24) : vp_in (4 * nI s + 3) 96 := by rw [show (4 : Int32) = nI 4 from rfl, show (3 : Int32) = nI 3 from rfl, pk_mul, nI_add]; exact vp_in_nI (by omega) (by omega)
def rNo (I : Nat → Nat → Int32) (s : Nat) (a b c d : Int32) : Nat → Nat → Int32 := xu (xu (xu (xu (xu I 395 (4 * s) a) 395 (4 * s + 1) b) 395 (4 * s + 2) c) 395 (4 * s + 3) d) 347 76 (nI (s + 1))
set_option maxHeartbeats 1000000 in
theorem k_noted {E : xCl} {ex : Bool} {I : Nat → Nat → Int32} {J : Nat → Nat → Int64} {P : Nat → Nat → Nat} (hP : Pok P) {s : Nat} (hs24 : s < 24) (hs : I 347 76 = nI s) (a b c q : Int32) (d : Nat) : xEx E ex (d + 1) yX11_noted [.ref 347, .int a, .int b, .int c, .int q] (SH, I, J, P) (some (.int (nI s))) (SH, rNo I s a b c q, J, P) := by
  refine x_enter cqX11_noted [some (.ref 347), some (.int a), some (.int b), some (.int c), some (.int q)] rfl (by simp [lg_sl, Value.category]) ?_
  refine r_aload_n dX11_noted_0 rfl ?_
  refine r_getR dX11_noted_1 flX11_160 sh_347 (by decide) rfl (pf_347_78 hP) ?_
  refine r_iconst (v := 4) dX11_noted_4 (by decide) ?_
  refine r_aload_n dX11_noted_5 rfl ?_
  refine r_getIv dX11_noted_6 flX11_400 sh_347 (by decide) rfl hs ?_
  refine r_imul dX11_noted_9 ?_
  refine r_iload_n dX11_noted_10 rfl ?_
  refine r_ias dX11_noted_11 sh_395 (i4 hs24) ?_
  refine r_aload_n dX11_noted_12 rfl ?_
  refine r_getR dX11_noted_13 flX11_160 sh_347 (by decide) rfl (pf_347_78 hP) ?_
  refine r_iconst (v := 4) dX11_noted_16 (by decide) ?_
  refine r_aload_n dX11_noted_17 rfl ?_
  refine r_getIv dX11_noted_18 flX11_400 sh_347 (by decide) rfl ((xu_f _ _ (by decide)).trans hs) ?_
  refine r_imul dX11_noted_21 ?_
  refine r_iconst (v := 1) dX11_noted_22 (by decide) ?_
  refine r_iadd dX11_noted_23 ?_
  refine r_iload_n dX11_noted_24 rfl ?_
  refine r_ias dX11_noted_25 sh_395 (i41 hs24) ?_
  refine r_aload_n dX11_noted_26 rfl ?_
  refine r_getR dX11_noted_27 flX11_160 sh_347 (by decide) rfl (pf_347_78 hP) ?_
  refine r_iconst (v := 4) dX11_noted_30 (by decide) ?_
  refine r_aload_n dX11_noted_31 rfl ?_
  refine r_getIv dX11_noted_32 flX11_400 sh_347 (by decide) rfl ((xu_f _ _ (by decide)).trans ((xu_f _ _ (by decide)).trans hs)) ?_
  refine r_imul dX11_noted_35 ?_
  refine r_iconst (v := 2) dX11_noted_36 (by decide) ?_
  refine r_iadd dX11_noted_37 ?_
  refine r_iload_n dX11_noted_38 rfl ?_
  refine r_ias dX11_noted_39 sh_395 (i42 hs24) ?_
  refine r_aload_n dX11_noted_40 rfl ?_
  refine r_getR dX11_noted_41 flX11_160 sh_347 (by decide) rfl (pf_347_78 hP) ?_
  refine r_iconst (v := 4) dX11_noted_44 (by decide) ?_
  refine r_aload_n dX11_noted_45 rfl ?_
  refine r_getIv dX11_noted_46 flX11_400 sh_347 (by decide) rfl ((xu_f _ _ (by decide)).trans ((xu_f _ _ (by decide)).trans ((xu_f _ _ (by decide)).trans hs))) ?_
  refine r_imul dX11_noted_49 ?_
  refine r_iconst (v := 3) dX11_noted_50 (by decide) ?_
  refine r_iadd dX11_noted_51 ?_
  refine r_iload dX11_noted_52 rfl ?_
  refine r_ias dX11_noted_54 sh_395 (i43 hs24) ?_
  refine r_aload_n dX11_noted_55 rfl ?_
  refine r_dup dX11_noted_56 rfl ?_
  refine r_getIv dX11_noted_57 flX11_400 sh_347 (by decide) rfl ((xu_f _ _ (by decide)).trans ((xu_f _ _ (by decide)).trans ((xu_f _ _ (by decide)).trans ((xu_f _ _ (by decide)).trans hs)))) ?_
  refine r_iconst (v := 1) dX11_noted_60 (by decide) ?_
  refine r_iadd dX11_noted_61 ?_
  refine r_putI dX11_noted_62 flX11_400 ⟨_, _, _, rfl, Or.inl rfl⟩ sh_347 (by decide) rfl rfl rfl ?_
  refine r_aload_n dX11_noted_65 rfl ?_
  refine r_getIv dX11_noted_66 flX11_400 sh_347 (by decide) rfl (xu_s _ _ _ _) ?_
  refine r_iconst (v := 1) dX11_noted_69 (by decide) ?_
  refine r_isub dX11_noted_70 ?_
  exact r_iret dX11_noted_71 rfl rfl (by rw [nI_1, nI_m1]) (by rw [rNo, c4 hs24, c41 hs24, c42 hs24, c43 hs24, nI_1])
abbrev rOkS (x1 x2 x3 : Int32) : Prop := (¬ x1 < 0 ∧ ¬ 50 < x1) ∧ (¬ x2 < 1 ∧ ¬ 999 < x2) ∧ (¬ x3 < 0 ∧ ¬ 9999 < x3)
theorem n24 {s : Nat} (h : s < 24) : ¬ nI s = 24 := fun z => by have := (nI_eq (a := s) (b := 24) (by omega) (by decide)).mp z; omega
set_option maxHeartbeats 1000000 in
theorem k_rsee_n {E : xCl} {ex : Bool} {I I0 : Nat → Nat → Int32} {J : Nat → Nat → Int64} {P : Nat → Nat → Nat} (hP : Pok P) (hI : xu I 347 2 0 = I0)  {s : Nat} (hs24 : s ≤ 24) (hs : I0 347 76 = nI s) {x1 x2 x3 x4 : Int32} (h : ¬ (rOkS x1 x2 x3 ∧ s < 24)) (d : Nat) : xEx E ex (d + 2) yX11_see [.ref 347, .int x1, .int x2, .int x3, .int x4] (SH, I, J, P) (some (.int (-1))) (SH, I0, J, P) := by
  refine x_enter cqX11_see [some (.ref 347), some (.int x1), some (.int x2), some (.int x3), some (.int x4)] rfl (by simp [lg_sl, Value.category]) ?_
  refine r_aload_n dX11_see_0 rfl ?_
  refine r_iconst (v := 0) dX11_see_1 (by decide) ?_
  refine r_putIv dX11_see_2 flX11_193 ⟨_, _, _, rfl, Or.inl rfl⟩ sh_347 (by decide) rfl rfl rfl hI ?_
  refine r_aload_n dX11_see_5 rfl ?_
  refine r_getIv dX11_see_6 flX11_400 sh_347 (by decide) rfl hs ?_
  refine r_bipush (v := 24) dX11_see_9 (by decide) ?_
  refine r_ic_eq 46 dX11_see_11 (by decide) (fun c11 => ?_) (fun c11 => ?_)
  · refine r_iconst (v := (-1)) dX11_see_46 (by decide) ?_
    refine r_goto 67 dX11_see_47 (by decide) ?_
    exact r_iret dX11_see_67 rfl rfl rfl rfl
  · refine r_iload_n dX11_see_14 rfl ?_
    refine r_iconst (v := 0) dX11_see_15 (by decide) ?_
    refine r_bipush (v := 50) dX11_see_16 (by decide) ?_
    by_cases h18 : ¬ x1 < 0 ∧ ¬ 50 < x1
    · refine r_cS3i dX11_see_18 slX11_238 (Nat.le_of_ble_eq_true rfl) (k_isIn_t h18 d) ?_
      refine r_if_eq 46 dX11_see_21 (by decide) (fun c21 => ?_) (fun c21 => ?_)
      · exact absurd c21 (by decide)
      · refine r_iload_n dX11_see_24 rfl ?_
        refine r_iconst (v := 1) dX11_see_25 (by decide) ?_
        refine r_sipush (v := 999) dX11_see_26 (by decide) ?_
        by_cases h29 : ¬ x2 < 1 ∧ ¬ 999 < x2
        · refine r_cS3i dX11_see_29 slX11_238 (Nat.le_of_ble_eq_true rfl) (k_isIn_t h29 d) ?_
          refine r_if_eq 46 dX11_see_32 (by decide) (fun c32 => ?_) (fun c32 => ?_)
          · exact absurd c32 (by decide)
          · refine r_iload_n dX11_see_35 rfl ?_
            refine r_iconst (v := 0) dX11_see_36 (by decide) ?_
            refine r_sipush (v := 9999) dX11_see_37 (by decide) ?_
            by_cases h40 : ¬ x3 < 0 ∧ ¬ 9999 < x3
            · refine r_cS3i dX11_see_40 slX11_238 (Nat.le_of_ble_eq_true rfl) (k_isIn_t h40 d) ?_
              refine r_if_ne 50 dX11_see_43 (by decide) (fun c43 => ?_) (fun c43 => ?_)
              · exact absurd ⟨⟨h18, h29, h40⟩, Nat.lt_of_le_of_ne hs24 (fun z => c11 (by rw [z]; rfl))⟩ h
              · exact absurd c43 (by decide)
            · refine r_cS3i dX11_see_40 slX11_238 (Nat.le_of_ble_eq_true rfl) (k_isIn_f h40 d) ?_
              refine r_if_ne 50 dX11_see_43 (by decide) (fun c43 => ?_) (fun c43 => ?_)
              · exact absurd c43 (by decide)
              · refine r_iconst (v := (-1)) dX11_see_46 (by decide) ?_
                refine r_goto 67 dX11_see_47 (by decide) ?_
                exact r_iret dX11_see_67 rfl rfl rfl rfl
        · refine r_cS3i dX11_see_29 slX11_238 (Nat.le_of_ble_eq_true rfl) (k_isIn_f h29 d) ?_
          refine r_if_eq 46 dX11_see_32 (by decide) (fun c32 => ?_) (fun c32 => ?_)
          · refine r_iconst (v := (-1)) dX11_see_46 (by decide) ?_
            refine r_goto 67 dX11_see_47 (by decide) ?_
            exact r_iret dX11_see_67 rfl rfl rfl rfl
          · exact absurd c32 (by decide)
    · refine r_cS3i dX11_see_18 slX11_238 (Nat.le_of_ble_eq_true rfl) (k_isIn_f h18 d) ?_
      refine r_if_eq 46 dX11_see_21 (by decide) (fun c21 => ?_) (fun c21 => ?_)
      · refine r_iconst (v := (-1)) dX11_see_46 (by decide) ?_
        refine r_goto 67 dX11_see_47 (by decide) ?_
        exact r_iret dX11_see_67 rfl rfl rfl rfl
      · exact absurd c21 (by decide)
set_option maxHeartbeats 1000000 in
theorem k_rsee {E : xCl} {ex : Bool} {I I0 : Nat → Nat → Int32} {J : Nat → Nat → Int64} {P : Nat → Nat → Nat} (hP : Pok P) (hI : xu I 347 2 0 = I0)  {s : Nat} (hs24 : s < 24) (hs : I0 347 76 = nI s) {x1 x2 x3 x4 : Int32} (h : rOkS x1 x2 x3) (d : Nat) : xEx E ex (d + 2) yX11_see [.ref 347, .int x1, .int x2, .int x3, .int x4] (SH, I, J, P) (some (.int (nI s))) (SH, rNo I0 s x1 x2 x3 (if x4 = 0 then 0 else 1), J, P) := by
  refine x_enter cqX11_see [some (.ref 347), some (.int x1), some (.int x2), some (.int x3), some (.int x4)] rfl (by simp [lg_sl, Value.category]) ?_
  refine r_aload_n dX11_see_0 rfl ?_
  refine r_iconst (v := 0) dX11_see_1 (by decide) ?_
  refine r_putIv dX11_see_2 flX11_193 ⟨_, _, _, rfl, Or.inl rfl⟩ sh_347 (by decide) rfl rfl rfl hI ?_
  refine r_aload_n dX11_see_5 rfl ?_
  refine r_getIv dX11_see_6 flX11_400 sh_347 (by decide) rfl hs ?_
  refine r_bipush (v := 24) dX11_see_9 (by decide) ?_
  refine r_ic_eq 46 dX11_see_11 (by decide) (fun c11 => ?_) (fun c11 => ?_)
  · exact absurd c11 (n24 hs24)
  · refine r_iload_n dX11_see_14 rfl ?_
    refine r_iconst (v := 0) dX11_see_15 (by decide) ?_
    refine r_bipush (v := 50) dX11_see_16 (by decide) ?_
    refine r_cS3i dX11_see_18 slX11_238 (Nat.le_of_ble_eq_true rfl) (k_isIn_t h.1 d) ?_
    refine r_if_eq 46 dX11_see_21 (by decide) (fun c21 => ?_) (fun c21 => ?_)
    · exact absurd c21 (by decide)
    · refine r_iload_n dX11_see_24 rfl ?_
      refine r_iconst (v := 1) dX11_see_25 (by decide) ?_
      refine r_sipush (v := 999) dX11_see_26 (by decide) ?_
      refine r_cS3i dX11_see_29 slX11_238 (Nat.le_of_ble_eq_true rfl) (k_isIn_t h.2.1 d) ?_
      refine r_if_eq 46 dX11_see_32 (by decide) (fun c32 => ?_) (fun c32 => ?_)
      · exact absurd c32 (by decide)
      · refine r_iload_n dX11_see_35 rfl ?_
        refine r_iconst (v := 0) dX11_see_36 (by decide) ?_
        refine r_sipush (v := 9999) dX11_see_37 (by decide) ?_
        refine r_cS3i dX11_see_40 slX11_238 (Nat.le_of_ble_eq_true rfl) (k_isIn_t h.2.2 d) ?_
        refine r_if_ne 50 dX11_see_43 (by decide) (fun c43 => ?_) (fun c43 => ?_)
        · refine r_aload_n dX11_see_50 rfl ?_
          refine r_iload_n dX11_see_51 rfl ?_
          refine r_iload_n dX11_see_52 rfl ?_
          refine r_iload_n dX11_see_53 rfl ?_
          refine r_iload dX11_see_54 rfl ?_
          refine r_if_eq 63 dX11_see_56 (by decide) (fun c56 => ?_) (fun c56 => ?_)
          · refine r_iconst (v := 0) dX11_see_63 (by decide) ?_
            refine r_cV4i dX11_see_64 vlX11_515 sh_347 (Nat.le_of_ble_eq_true rfl) (k_noted hP hs24 hs _ _ _ _ d) ?_
            exact r_iret dX11_see_67 rfl rfl rfl (by rw [if_pos c56])
          · refine r_iconst (v := 1) dX11_see_59 (by decide) ?_
            refine r_goto 64 dX11_see_60 (by decide) ?_
            refine r_cV4i dX11_see_64 vlX11_515 sh_347 (Nat.le_of_ble_eq_true rfl) (k_noted hP hs24 hs _ _ _ _ d) ?_
            exact r_iret dX11_see_67 rfl rfl rfl (by rw [if_neg c56])
        · exact absurd c43 (by decide)
set_option maxHeartbeats 1000000 in
theorem k_rstrikes_n {E : xCl} {ex : Bool} {I I0 : Nat → Nat → Int32} {J : Nat → Nat → Int64} {P : Nat → Nat → Nat} (hP : Pok P) (hI : xu I 347 2 0 = I0)  {s : Nat} (hs24 : s ≤ 24) (hs : I0 347 76 = nI s) {x : Int32} (h : ¬ (¬ x < 0 ∧ x < nI s ∧ s < 24)) (d : Nat) : xEx E ex (d + 2) yX11_strikes [.ref 347, .int x] (SH, I, J, P) (some (.int (-1))) (SH, I0, J, P) := by
  refine x_enter cqX11_strikes [some (.ref 347), some (.int x)] rfl (by simp [lg_sl, Value.category]) ?_
  refine r_aload_n dX11_strikes_0 rfl ?_
  refine r_iconst (v := 0) dX11_strikes_1 (by decide) ?_
  refine r_putIv dX11_strikes_2 flX11_193 ⟨_, _, _, rfl, Or.inl rfl⟩ sh_347 (by decide) rfl rfl rfl hI ?_
  refine r_aload_n dX11_strikes_5 rfl ?_
  refine r_getIv dX11_strikes_6 flX11_400 sh_347 (by decide) rfl hs ?_
  refine r_bipush (v := 24) dX11_strikes_9 (by decide) ?_
  refine r_ic_eq 26 dX11_strikes_11 (by decide) (fun c11 => ?_) (fun c11 => ?_)
  · refine r_iconst (v := (-1)) dX11_strikes_26 (by decide) ?_
    refine r_goto 38 dX11_strikes_27 (by decide) ?_
    exact r_iret dX11_strikes_38 rfl rfl rfl rfl
  · refine r_iload_n dX11_strikes_14 rfl ?_
    refine r_if_lt 26 dX11_strikes_15 (by decide) (fun c15 => ?_) (fun c15 => ?_)
    · refine r_iconst (v := (-1)) dX11_strikes_26 (by decide) ?_
      refine r_goto 38 dX11_strikes_27 (by decide) ?_
      exact r_iret dX11_strikes_38 rfl rfl rfl rfl
    · refine r_iload_n dX11_strikes_18 rfl ?_
      refine r_aload_n dX11_strikes_19 rfl ?_
      refine r_getIv dX11_strikes_20 flX11_400 sh_347 (by decide) rfl hs ?_
      refine r_ic_lt 30 dX11_strikes_23 (by decide) (fun c23 => ?_) (fun c23 => ?_)
      · exact absurd ⟨c15, c23, Nat.lt_of_le_of_ne hs24 (fun z => c11 (by rw [z]; rfl))⟩ h
      · refine r_iconst (v := (-1)) dX11_strikes_26 (by decide) ?_
        refine r_goto 38 dX11_strikes_27 (by decide) ?_
        exact r_iret dX11_strikes_38 rfl rfl rfl rfl
set_option maxHeartbeats 1000000 in
theorem k_rstrikes {E : xCl} {ex : Bool} {I I0 : Nat → Nat → Int32} {J : Nat → Nat → Int64} {P : Nat → Nat → Nat} (hP : Pok P) (hI : xu I 347 2 0 = I0)  {s : Nat} (hs24 : s < 24) (hs : I0 347 76 = nI s) {x : Int32} (h : ¬ x < 0 ∧ x < nI s) (d : Nat) : xEx E ex (d + 2) yX11_strikes [.ref 347, .int x] (SH, I, J, P) (some (.int (nI s))) (SH, rNo I0 s (-1) x 0 0, J, P) := by
  refine x_enter cqX11_strikes [some (.ref 347), some (.int x)] rfl (by simp [lg_sl, Value.category]) ?_
  refine r_aload_n dX11_strikes_0 rfl ?_
  refine r_iconst (v := 0) dX11_strikes_1 (by decide) ?_
  refine r_putIv dX11_strikes_2 flX11_193 ⟨_, _, _, rfl, Or.inl rfl⟩ sh_347 (by decide) rfl rfl rfl hI ?_
  refine r_aload_n dX11_strikes_5 rfl ?_
  refine r_getIv dX11_strikes_6 flX11_400 sh_347 (by decide) rfl hs ?_
  refine r_bipush (v := 24) dX11_strikes_9 (by decide) ?_
  refine r_ic_eq 26 dX11_strikes_11 (by decide) (fun c11 => ?_) (fun c11 => ?_)
  · exact absurd c11 (n24 hs24)
  · refine r_iload_n dX11_strikes_14 rfl ?_
    refine r_if_lt 26 dX11_strikes_15 (by decide) (fun c15 => ?_) (fun c15 => ?_)
    · exact absurd c15 h.1
    · refine r_iload_n dX11_strikes_18 rfl ?_
      refine r_aload_n dX11_strikes_19 rfl ?_
      refine r_getIv dX11_strikes_20 flX11_400 sh_347 (by decide) rfl hs ?_
      refine r_ic_lt 30 dX11_strikes_23 (by decide) (fun c23 => ?_) (fun c23 => ?_)
      · refine r_aload_n dX11_strikes_30 rfl ?_
        refine r_iconst (v := (-1)) dX11_strikes_31 (by decide) ?_
        refine r_iload_n dX11_strikes_32 rfl ?_
        refine r_iconst (v := 0) dX11_strikes_33 (by decide) ?_
        refine r_iconst (v := 0) dX11_strikes_34 (by decide) ?_
        refine r_cV4i dX11_strikes_35 vlX11_515 sh_347 (Nat.le_of_ble_eq_true rfl) (k_noted hP hs24 hs _ _ _ _ d) ?_
        exact r_iret dX11_strikes_38 rfl rfl rfl rfl
      · exact absurd h.2 c23
set_option maxHeartbeats 1000000 in
theorem k_rknown_t {E : xCl} {ex : Bool} {I I0 : Nat → Nat → Int32} {J : Nat → Nat → Int64} {P : Nat → Nat → Nat} (hP : Pok P) (hI : xu I 347 2 0 = I0) {x : Int32} (h : (¬ x < -1 ∧ ¬ I0 347 76 < x)) (d : Nat) : xEx E ex (d + 2) yX11_known [.ref 347, .int x] (SH, I, J, P) (some (.int 1)) (SH, xu I0 347 77 x, J, P) := by
  refine x_enter cqX11_known [some (.ref 347), some (.int x)] rfl (by simp [lg_sl, Value.category]) ?_
  refine r_aload_n dX11_known_0 rfl ?_
  refine r_iconst (v := 0) dX11_known_1 (by decide) ?_
  refine r_putIv dX11_known_2 flX11_193 ⟨_, _, _, rfl, Or.inl rfl⟩ sh_347 (by decide) rfl rfl rfl hI ?_
  refine r_iload_n dX11_known_5 rfl ?_
  refine r_iconst (v := (-1)) dX11_known_6 (by decide) ?_
  refine r_aload_n dX11_known_7 rfl ?_
  refine r_getI dX11_known_8 flX11_400 sh_347 (by decide) rfl ?_
  refine r_cS3i dX11_known_11 slX11_238 (Nat.le_of_ble_eq_true rfl) (k_isIn_t h d) ?_
  refine r_if_ne 19 dX11_known_14 (by decide) (fun c14 => ?_) (fun c14 => ?_)
  · refine r_aload_n dX11_known_19 rfl ?_
    refine r_iload_n dX11_known_20 rfl ?_
    refine r_putIv dX11_known_21 flX11_157 ⟨_, _, _, rfl, Or.inl rfl⟩ sh_347 (by decide) rfl rfl rfl rfl ?_
    refine r_iconst (v := 1) dX11_known_24 (by decide) ?_
    exact r_iret dX11_known_25 rfl rfl rfl rfl
  · exact absurd c14 (by decide)
set_option maxHeartbeats 1000000 in
theorem k_rknown_f {E : xCl} {ex : Bool} {I I0 : Nat → Nat → Int32} {J : Nat → Nat → Int64} {P : Nat → Nat → Nat} (hP : Pok P) (hI : xu I 347 2 0 = I0) {x : Int32} (h : ¬ (¬ x < -1 ∧ ¬ I0 347 76 < x)) (d : Nat) : xEx E ex (d + 2) yX11_known [.ref 347, .int x] (SH, I, J, P) (some (.int 0)) (SH, I0, J, P) := by
  refine x_enter cqX11_known [some (.ref 347), some (.int x)] rfl (by simp [lg_sl, Value.category]) ?_
  refine r_aload_n dX11_known_0 rfl ?_
  refine r_iconst (v := 0) dX11_known_1 (by decide) ?_
  refine r_putIv dX11_known_2 flX11_193 ⟨_, _, _, rfl, Or.inl rfl⟩ sh_347 (by decide) rfl rfl rfl hI ?_
  refine r_iload_n dX11_known_5 rfl ?_
  refine r_iconst (v := (-1)) dX11_known_6 (by decide) ?_
  refine r_aload_n dX11_known_7 rfl ?_
  refine r_getI dX11_known_8 flX11_400 sh_347 (by decide) rfl ?_
  refine r_cS3i dX11_known_11 slX11_238 (Nat.le_of_ble_eq_true rfl) (k_isIn_f h d) ?_
  refine r_if_ne 19 dX11_known_14 (by decide) (fun c14 => ?_) (fun c14 => ?_)
  · exact absurd c14 (by decide)
  · refine r_iconst (v := 0) dX11_known_17 (by decide) ?_
    exact r_iret dX11_known_18 rfl rfl rfl rfl
set_option maxHeartbeats 1000000 in
theorem k_knownByI {E : xCl} {ex : Bool} {I : Nat → Nat → Int32} {J : Nat → Nat → Int64} {P : Nat → Nat → Nat}  (d : Nat) : xEx E ex (d + 1) yX11_knownBy [.ref 347] (SH, I, J, P) (some (.int (rKb I))) (SH, I, J, P) := by
  refine x_enter cqX11_knownBy [some (.ref 347)] rfl (by simp [lg_sl, Value.category]) ?_
  refine r_aload_n dX11_knownBy_0 rfl ?_
  refine r_getI dX11_knownBy_1 flX11_157 sh_347 (by decide) rfl ?_
  refine r_if_ge 14 dX11_knownBy_4 (by decide) (fun c4 => ?_) (fun c4 => ?_)
  · refine r_aload_n dX11_knownBy_14 rfl ?_
    refine r_getI dX11_knownBy_15 flX11_157 sh_347 (by decide) rfl ?_
    exact r_iret dX11_knownBy_18 rfl rfl (by rw [rKb, if_pos c4]) rfl
  · refine r_aload_n dX11_knownBy_7 rfl ?_
    refine r_getI dX11_knownBy_8 flX11_400 sh_347 (by decide) rfl ?_
    refine r_goto 18 dX11_knownBy_11 (by decide) ?_
    exact r_iret dX11_knownBy_18 rfl rfl (by rw [rKb, if_neg c4]) rfl
/-- a sag that is noted agrees with what is borne behind y years -/
def okB (I : Nat → Nat → Int32) (B y : Int32) (k : Nat) : Prop := I 396 k = 0 ∨ ¬ I 395 (4 * k) = y ∨ (¬ rSag (I 395 (4 * k + 1)) B < I 395 (4 * k + 2) ↔ I 395 (4 * k + 3) = 1)
set_option maxHeartbeats 2000000 in
theorem l_isSo {E : xCl} {ex : Bool} {I : Nat → Nat → Int32} {J : Nat → Nat → Int64} {P : Nat → Nat → Nat} (hP : Pok P) {kb : Nat} (hkb24 : kb ≤ 24) (hkb : rKb I = nI kb) (B y r : Int32) (d : Nat) : ∀ c q, q + c = kb → ((∀ k, q ≤ k → k < kb → okB I B y k) → r = 1) → (¬ (∀ k, q ≤ k → k < kb → okB I B y k) → r = 0) → ∀ y4, xR (xEx E ex (d + 1)) ex none yX11_isSo cX11_isSo (some .boolean) 2 [some (.ref 347), some (.int y), some (.int B), some (.int (nI q)), y4] [] (SH, I, J, P) (xEq (some (.int r)) (SH, I, J, P)) := by
  intro c
  induction c with
  | zero =>
    intro q hq h1 h0 y4
    refine r_iload_n dX11_isSo_2 rfl ?_
    refine r_aload_n dX11_isSo_3 rfl ?_
    refine r_cV0i dX11_isSo_4 vlX11_519 sh_347 (Nat.le_of_ble_eq_true rfl) (k_knownByI d) ?_
    refine r_ic_ge 101 dX11_isSo_7 (by decide) (fun c7 => ?_) (fun c7 => ?_)
    · refine r_iconst (v := 1) dX11_isSo_101 (by decide) ?_
      exact r_iret dX11_isSo_102 rfl rfl (by rw [h1 (fun k h2 h3 => absurd h2 (by omega))]) rfl
    · exact absurd (by rw [hkb]; exact nI_le (by omega) (by omega)) c7
  | succ c ih =>
    intro q hq h1 h0 y4
    refine r_iload_n dX11_isSo_2 rfl ?_
    refine r_aload_n dX11_isSo_3 rfl ?_
    refine r_cV0i dX11_isSo_4 vlX11_519 sh_347 (Nat.le_of_ble_eq_true rfl) (k_knownByI d) ?_
    refine r_ic_ge 101 dX11_isSo_7 (by decide) (fun c7 => ?_) (fun c7 => ?_)
    · exact absurd (hkb ▸ c7) (nI_ge (by omega) (by omega))
    · refine r_aload_n dX11_isSo_10 rfl ?_
      refine r_getR dX11_isSo_11 flX11_163 sh_347 (by decide) rfl (pf_347_79 hP) ?_
      refine r_iload_n dX11_isSo_14 rfl ?_
      refine r_zalv dX11_isSo_15 sh_396 (vp_in_nI (by omega) (by omega)) (congrArg (I 396) (nI_clamp (n := q) (by omega))) ?_
      refine r_if_eq 95 dX11_isSo_16 (by decide) (fun c16 => ?_) (fun c16 => ?_)
      · refine r_iinc3 (v := 1) dX11_isSo_95 (by decide) rfl ?_
        refine r_goto 2 dX11_isSo_98 (by decide) ?_
        rw [nI_1]; have z : okB I B y q := Or.inl c16
        exact ih (q + 1) (by omega) (fun z2 => h1 (fun k h2 h3 => if e : k = q then e ▸ z else z2 k (by omega) h3)) (fun z2 => h0 (fun z3 => z2 (fun k h2 h3 => z3 k (by omega) h3))) _
      · refine r_aload_n dX11_isSo_19 rfl ?_
        refine r_getR dX11_isSo_20 flX11_160 sh_347 (by decide) rfl (pf_347_78 hP) ?_
        refine r_iconst (v := 4) dX11_isSo_23 (by decide) ?_
        refine r_iload_n dX11_isSo_24 rfl ?_
        refine r_imul dX11_isSo_25 ?_
        refine r_ialv dX11_isSo_26 sh_395 (i4 (by omega)) (congrArg (I 395) (c4 (by omega))) ?_
        refine r_iload_n dX11_isSo_27 rfl ?_
        refine r_ic_eq 34 dX11_isSo_28 (by decide) (fun c28 => ?_) (fun c28 => ?_)
        · refine r_aload_n dX11_isSo_34 rfl ?_
          refine r_aload_n dX11_isSo_35 rfl ?_
          refine r_getR dX11_isSo_36 flX11_160 sh_347 (by decide) rfl (pf_347_78 hP) ?_
          refine r_iconst (v := 4) dX11_isSo_39 (by decide) ?_
          refine r_iload_n dX11_isSo_40 rfl ?_
          refine r_imul dX11_isSo_41 ?_
          refine r_iconst (v := 1) dX11_isSo_42 (by decide) ?_
          refine r_iadd dX11_isSo_43 ?_
          refine r_ialv dX11_isSo_44 sh_395 (i41 (by omega)) (congrArg (I 395) (c41 (by omega))) ?_
          refine r_iload_n dX11_isSo_45 rfl ?_
          refine r_cV2i dX11_isSo_46 vlX11_470 sh_347 (Nat.le_of_ble_eq_true rfl) (k_rsagOf _ _ d) ?_
          refine r_aload_n dX11_isSo_49 rfl ?_
          refine r_getR dX11_isSo_50 flX11_160 sh_347 (by decide) rfl (pf_347_78 hP) ?_
          refine r_iconst (v := 4) dX11_isSo_53 (by decide) ?_
          refine r_iload_n dX11_isSo_54 rfl ?_
          refine r_imul dX11_isSo_55 ?_
          refine r_iconst (v := 2) dX11_isSo_56 (by decide) ?_
          refine r_iadd dX11_isSo_57 ?_
          refine r_ialv dX11_isSo_58 sh_395 (i42 (by omega)) (congrArg (I 395) (c42 (by omega))) ?_
          refine r_ic_lt 66 dX11_isSo_59 (by decide) (fun c59 => ?_) (fun c59 => ?_)
          · refine r_iconst (v := 0) dX11_isSo_66 (by decide) ?_
            refine r_istore4 dX11_isSo_67 rfl ?_
            refine r_iload dX11_isSo_69 rfl ?_
            refine r_aload_n dX11_isSo_71 rfl ?_
            refine r_getR dX11_isSo_72 flX11_160 sh_347 (by decide) rfl (pf_347_78 hP) ?_
            refine r_iconst (v := 4) dX11_isSo_75 (by decide) ?_
            refine r_iload_n dX11_isSo_76 rfl ?_
            refine r_imul dX11_isSo_77 ?_
            refine r_iconst (v := 3) dX11_isSo_78 (by decide) ?_
            refine r_iadd dX11_isSo_79 ?_
            refine r_ialv dX11_isSo_80 sh_395 (i43 (by omega)) (congrArg (I 395) (c43 (by omega))) ?_
            refine r_iconst (v := 1) dX11_isSo_81 (by decide) ?_
            refine r_ic_ne 89 dX11_isSo_82 (by decide) (fun c82 => ?_) (fun c82 => ?_)
            · refine r_iconst (v := 0) dX11_isSo_89 (by decide) ?_
              refine r_ic_eq 95 dX11_isSo_90 (by decide) (fun c90 => ?_) (fun c90 => ?_)
              · refine r_iinc3 (v := 1) dX11_isSo_95 (by decide) rfl ?_
                refine r_goto 2 dX11_isSo_98 (by decide) ?_
                rw [nI_1]; have z : okB I B y q := Or.inr (Or.inr ⟨fun z => absurd c59 z, fun z => absurd z c82⟩)
                exact ih (q + 1) (by omega) (fun z2 => h1 (fun k h2 h3 => if e : k = q then e ▸ z else z2 k (by omega) h3)) (fun z2 => h0 (fun z3 => z2 (fun k h2 h3 => z3 k (by omega) h3))) _
              · exact absurd c90 (by decide)
            · refine r_iconst (v := 1) dX11_isSo_85 (by decide) ?_
              refine r_goto 90 dX11_isSo_86 (by decide) ?_
              refine r_ic_eq 95 dX11_isSo_90 (by decide) (fun c90 => ?_) (fun c90 => ?_)
              · exact absurd c90 (by decide)
              · refine r_iconst (v := 0) dX11_isSo_93 (by decide) ?_
                exact r_iret dX11_isSo_94 rfl rfl (by rw [h0 (fun z => (fun z => z.elim c16 (fun z => z.elim (fun z => z c28) (fun z => z.mpr c82 c59))) (z q (Nat.le_refl _) (by omega)))]) rfl
          · refine r_iconst (v := 1) dX11_isSo_62 (by decide) ?_
            refine r_goto 67 dX11_isSo_63 (by decide) ?_
            refine r_istore4 dX11_isSo_67 rfl ?_
            refine r_iload dX11_isSo_69 rfl ?_
            refine r_aload_n dX11_isSo_71 rfl ?_
            refine r_getR dX11_isSo_72 flX11_160 sh_347 (by decide) rfl (pf_347_78 hP) ?_
            refine r_iconst (v := 4) dX11_isSo_75 (by decide) ?_
            refine r_iload_n dX11_isSo_76 rfl ?_
            refine r_imul dX11_isSo_77 ?_
            refine r_iconst (v := 3) dX11_isSo_78 (by decide) ?_
            refine r_iadd dX11_isSo_79 ?_
            refine r_ialv dX11_isSo_80 sh_395 (i43 (by omega)) (congrArg (I 395) (c43 (by omega))) ?_
            refine r_iconst (v := 1) dX11_isSo_81 (by decide) ?_
            refine r_ic_ne 89 dX11_isSo_82 (by decide) (fun c82 => ?_) (fun c82 => ?_)
            · refine r_iconst (v := 0) dX11_isSo_89 (by decide) ?_
              refine r_ic_eq 95 dX11_isSo_90 (by decide) (fun c90 => ?_) (fun c90 => ?_)
              · exact absurd c90 (by decide)
              · refine r_iconst (v := 0) dX11_isSo_93 (by decide) ?_
                exact r_iret dX11_isSo_94 rfl rfl (by rw [h0 (fun z => (fun z => z.elim c16 (fun z => z.elim (fun z => z c28) (fun z => c82 (z.mp c59)))) (z q (Nat.le_refl _) (by omega)))]) rfl
            · refine r_iconst (v := 1) dX11_isSo_85 (by decide) ?_
              refine r_goto 90 dX11_isSo_86 (by decide) ?_
              refine r_ic_eq 95 dX11_isSo_90 (by decide) (fun c90 => ?_) (fun c90 => ?_)
              · refine r_iinc3 (v := 1) dX11_isSo_95 (by decide) rfl ?_
                refine r_goto 2 dX11_isSo_98 (by decide) ?_
                rw [nI_1]; have z : okB I B y q := Or.inr (Or.inr ⟨fun _ => c82, fun _ => c59⟩)
                exact ih (q + 1) (by omega) (fun z2 => h1 (fun k h2 h3 => if e : k = q then e ▸ z else z2 k (by omega) h3)) (fun z2 => h0 (fun z3 => z2 (fun k h2 h3 => z3 k (by omega) h3))) _
              · exact absurd c90 (by decide)
        · refine r_goto 95 dX11_isSo_31 (by decide) ?_
          refine r_iinc3 (v := 1) dX11_isSo_95 (by decide) rfl ?_
          refine r_goto 2 dX11_isSo_98 (by decide) ?_
          rw [nI_1]; have z : okB I B y q := Or.inr (Or.inl c28)
          exact ih (q + 1) (by omega) (fun z2 => h1 (fun k h2 h3 => if e : k = q then e ▸ z else z2 k (by omega) h3)) (fun z2 => h0 (fun z3 => z2 (fun k h2 h3 => z3 k (by omega) h3))) _
set_option maxHeartbeats 1000000 in
theorem k_isSo_t {E : xCl} {ex : Bool} {I : Nat → Nat → Int32} {J : Nat → Nat → Int64} {P : Nat → Nat → Nat} (hP : Pok P) {kb : Nat} (hkb24 : kb ≤ 24) (hkb : rKb I = nI kb) {B y : Int32} (h : (∀ k, k < kb → okB I B y k)) (d : Nat) : xEx E ex (d + 2) yX11_isSo [.ref 347, .int y, .int B] (SH, I, J, P) (some (.int 1)) (SH, I, J, P) := by
  refine x_enter cqX11_isSo [some (.ref 347), some (.int y), some (.int B), none, none] rfl (by simp [lg_sl, Value.category]) ?_
  refine r_iconst (v := 0) dX11_isSo_0 (by decide) ?_
  refine r_istore_n3 dX11_isSo_1 rfl ?_
  exact l_isSo hP hkb24 hkb B y 1 d kb 0 (Nat.zero_add _) (fun _ => rfl) (fun z => absurd (fun k _ h3 => h k h3) z) none
set_option maxHeartbeats 1000000 in
theorem k_isSo_f {E : xCl} {ex : Bool} {I : Nat → Nat → Int32} {J : Nat → Nat → Int64} {P : Nat → Nat → Nat} (hP : Pok P) {kb : Nat} (hkb24 : kb ≤ 24) (hkb : rKb I = nI kb) {B y : Int32} (h : ¬ (∀ k, k < kb → okB I B y k)) (d : Nat) : xEx E ex (d + 2) yX11_isSo [.ref 347, .int y, .int B] (SH, I, J, P) (some (.int 0)) (SH, I, J, P) := by
  refine x_enter cqX11_isSo [some (.ref 347), some (.int y), some (.int B), none, none] rfl (by simp [lg_sl, Value.category]) ?_
  refine r_iconst (v := 0) dX11_isSo_0 (by decide) ?_
  refine r_istore_n3 dX11_isSo_1 rfl ?_
  exact l_isSo hP hkb24 hkb B y 0 d kb 0 (Nat.zero_add _) (fun z => absurd (fun k h3 => z k (Nat.zero_le _) h3) h) (fun _ => rfl) none
