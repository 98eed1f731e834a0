/-! the reference: acts -/
set_option maxHeartbeats 1000000 in
theorem k_rforgive_t {E : xCl} {ex : Bool} {I I0 V : Nat → Nat → Int32} {e : Int32} {J : Nat → Nat → Int64} {P : Nat → Nat → Nat} (hP : Pok P) (hI : xu I 347 2 0 = I0)  {n : Nat} (hv : Vok V n) {u : Nat} (hu20 : u ≤ 20) (hu : I0 347 83 = nI u) {x : Int32} (h : sTh V x) (d : Nat) : xEx E ex (d + 3) yX11_forgive [.ref 347, .int x] (SH, wR (wE I e) 0 V, J, P) (some (.int 1)) (SH, wR (wE (rRem I0 V u) e) 0 (xu V 9 x.toNatClampNeg 2), J, P) := by
  refine x_enter cqX11_forgive [some (.ref 347), some (.int x)] rfl (by simp [lg_sl, Value.category]) ?_
  refine r_aload_n dX11_forgive_0 rfl ?_
  refine r_iconst (v := 0) dX11_forgive_1 (by decide) ?_
  refine r_putIv dX11_forgive_2 flX11_193 ⟨_, _, _, rfl, Or.inl rfl⟩ sh_347 (by decide) rfl rfl rfl ((wR_xo _ _ _ (by decide) _ _).trans (congrArg (fun z => wR z _ _) ((wE_c _ _ _ (by decide)).trans (congrArg (fun z => wE z _) hI)))) ?_
  refine r_aload_n dX11_forgive_5 rfl ?_
  refine r_iload_n dX11_forgive_6 rfl ?_
  by_cases h7 : sSt V x
  · refine r_cV1i dX11_forgive_7 vlX11_465 sh_347 (Nat.le_of_ble_eq_true rfl) (k_rStr_t hP hv h7 (d + 1)) ?_
    refine r_if_eq 22 dX11_forgive_10 (by decide) (fun c10 => ?_) (fun c10 => ?_)
    · exact absurd c10 (by decide)
    · refine r_aload_n dX11_forgive_13 rfl ?_
      refine r_iconst (v := 0) dX11_forgive_14 (by decide) ?_
      refine r_iload_n dX11_forgive_15 rfl ?_
      by_cases h16 : V 9 x.toNatClampNeg = 0
      · refine r_cV2i dX11_forgive_16 vlX11_418 sh_347 (Nat.le_of_ble_eq_true rfl) (k_rTh0_t hP (vin12 h7.1 h7.2.2) h16 (d + 1)) ?_
        refine r_if_ne 24 dX11_forgive_19 (by decide) (fun c19 => ?_) (fun c19 => ?_)
        · refine r_aload_n dX11_forgive_24 rfl ?_
          refine r_cV0v dX11_forgive_25 vlX11_473 sh_347 (Nat.le_of_ble_eq_true rfl) (k_rem hP hu20 hu d) ?_
          refine r_aload_n dX11_forgive_28 rfl ?_
          refine r_getR dX11_forgive_29 flX11_127 sh_347 (by decide) rfl (pf_347_62 hP) ?_
          refine r_iload_n dX11_forgive_32 rfl ?_
          refine r_iconst (v := 2) dX11_forgive_33 (by decide) ?_
          refine r_iasv dX11_forgive_34 sh_385 (iz12 (vin12 h.1.1 h.1.2.2)) (rY9 _ _ (vin12 h.1.1 h.1.2.2) _) ?_
          refine r_iconst (v := 1) dX11_forgive_35 (by decide) ?_
          exact r_iret dX11_forgive_36 rfl rfl rfl rfl
        · exact absurd c19 (by decide)
      · refine r_cV2i dX11_forgive_16 vlX11_418 sh_347 (Nat.le_of_ble_eq_true rfl) (k_rTh0_f hP (vin12 h7.1 h7.2.2) h16 (d + 1)) ?_
        refine r_if_ne 24 dX11_forgive_19 (by decide) (fun c19 => ?_) (fun c19 => ?_)
        · exact absurd c19 (by decide)
        · refine r_iconst (v := 0) dX11_forgive_22 (by decide) ?_
          exact absurd h.2 h16
  · refine r_cV1i dX11_forgive_7 vlX11_465 sh_347 (Nat.le_of_ble_eq_true rfl) (k_rStr_f hP hv h7 (d + 1)) ?_
    refine r_if_eq 22 dX11_forgive_10 (by decide) (fun c10 => ?_) (fun c10 => ?_)
    · refine r_iconst (v := 0) dX11_forgive_22 (by decide) ?_
      exact absurd h.1 h7
    · exact absurd c10 (by decide)
set_option maxHeartbeats 1000000 in
theorem k_rforgive_f {E : xCl} {ex : Bool} {I I0 V : Nat → Nat → Int32} {e : Int32} {J : Nat → Nat → Int64} {P : Nat → Nat → Nat} (hP : Pok P) (hI : xu I 347 2 0 = I0)  {n : Nat} (hv : Vok V n) {x : Int32} (h : ¬ sTh V x) (d : Nat) : xEx E ex (d + 3) yX11_forgive [.ref 347, .int x] (SH, wR (wE I e) 0 V, J, P) (some (.int 0)) (SH, wR (wE I0 e) 0 V, J, P) := by
  refine x_enter cqX11_forgive [some (.ref 347), some (.int x)] rfl (by simp [lg_sl, Value.category]) ?_
  refine r_aload_n dX11_forgive_0 rfl ?_
  refine r_iconst (v := 0) dX11_forgive_1 (by decide) ?_
  refine r_putIv dX11_forgive_2 flX11_193 ⟨_, _, _, rfl, Or.inl rfl⟩ sh_347 (by decide) rfl rfl rfl ((wR_xo _ _ _ (by decide) _ _).trans (congrArg (fun z => wR z _ _) ((wE_c _ _ _ (by decide)).trans (congrArg (fun z => wE z _) hI)))) ?_
  refine r_aload_n dX11_forgive_5 rfl ?_
  refine r_iload_n dX11_forgive_6 rfl ?_
  by_cases h7 : sSt V x
  · refine r_cV1i dX11_forgive_7 vlX11_465 sh_347 (Nat.le_of_ble_eq_true rfl) (k_rStr_t hP hv h7 (d + 1)) ?_
    refine r_if_eq 22 dX11_forgive_10 (by decide) (fun c10 => ?_) (fun c10 => ?_)
    · exact absurd c10 (by decide)
    · refine r_aload_n dX11_forgive_13 rfl ?_
      refine r_iconst (v := 0) dX11_forgive_14 (by decide) ?_
      refine r_iload_n dX11_forgive_15 rfl ?_
      by_cases h16 : V 9 x.toNatClampNeg = 0
      · refine r_cV2i dX11_forgive_16 vlX11_418 sh_347 (Nat.le_of_ble_eq_true rfl) (k_rTh0_t hP (vin12 h7.1 h7.2.2) h16 (d + 1)) ?_
        refine r_if_ne 24 dX11_forgive_19 (by decide) (fun c19 => ?_) (fun c19 => ?_)
        · exact absurd ⟨h7, h16⟩ h
        · exact absurd c19 (by decide)
      · refine r_cV2i dX11_forgive_16 vlX11_418 sh_347 (Nat.le_of_ble_eq_true rfl) (k_rTh0_f hP (vin12 h7.1 h7.2.2) h16 (d + 1)) ?_
        refine r_if_ne 24 dX11_forgive_19 (by decide) (fun c19 => ?_) (fun c19 => ?_)
        · exact absurd c19 (by decide)
        · refine r_iconst (v := 0) dX11_forgive_22 (by decide) ?_
          exact r_iret dX11_forgive_23 rfl rfl rfl rfl
  · refine r_cV1i dX11_forgive_7 vlX11_465 sh_347 (Nat.le_of_ble_eq_true rfl) (k_rStr_f hP hv h7 (d + 1)) ?_
    refine r_if_eq 22 dX11_forgive_10 (by decide) (fun c10 => ?_) (fun c10 => ?_)
    · refine r_iconst (v := 0) dX11_forgive_22 (by decide) ?_
      exact r_iret dX11_forgive_23 rfl rfl rfl rfl
    · exact absurd c10 (by decide)
set_option maxHeartbeats 1000000 in
theorem k_rpay_t {E : xCl} {ex : Bool} {I I0 V : Nat → Nat → Int32} {e : Int32} {J : Nat → Nat → Int64} {P : Nat → Nat → Nat} (hP : Pok P) (hI : xu I 347 2 0 = I0)  {n : Nat} (hv : Vok V n) {u : Nat} (hu20 : u ≤ 20) (hu : I0 347 83 = nI u) {x : Int32} (h : sCan V x) (d : Nat) : xEx E ex (d + 3) yX11_pay [.ref 347, .int x] (SH, wR (wE I e) 0 V, J, P) (some (.int 1)) (SH, wR (wE (rRem I0 V u) e) 0 (sPay V x.toNatClampNeg), J, P) := by
  refine x_enter cqX11_pay [some (.ref 347), some (.int x)] rfl (by simp [lg_sl, Value.category]) ?_
  refine r_aload_n dX11_pay_0 rfl ?_
  refine r_iconst (v := 0) dX11_pay_1 (by decide) ?_
  refine r_putIv dX11_pay_2 flX11_193 ⟨_, _, _, rfl, Or.inl rfl⟩ sh_347 (by decide) rfl rfl rfl ((wR_xo _ _ _ (by decide) _ _).trans (congrArg (fun z => wR z _ _) ((wE_c _ _ _ (by decide)).trans (congrArg (fun z => wE z _) hI)))) ?_
  refine r_aload_n dX11_pay_5 rfl ?_
  refine r_iload_n dX11_pay_6 rfl ?_
  by_cases h7 : sSt V x
  · refine r_cV1i dX11_pay_7 vlX11_465 sh_347 (Nat.le_of_ble_eq_true rfl) (k_rStr_t hP hv h7 (d + 1)) ?_
    refine r_if_eq 42 dX11_pay_10 (by decide) (fun c10 => ?_) (fun c10 => ?_)
    · exact absurd c10 (by decide)
    · refine r_aload_n dX11_pay_13 rfl ?_
      refine r_iconst (v := 0) dX11_pay_14 (by decide) ?_
      refine r_iload_n dX11_pay_15 rfl ?_
      by_cases h16 : V 9 x.toNatClampNeg = 0
      · refine r_cV2i dX11_pay_16 vlX11_418 sh_347 (Nat.le_of_ble_eq_true rfl) (k_rTh0_t hP (vin12 h7.1 h7.2.2) h16 (d + 1)) ?_
        refine r_if_eq 42 dX11_pay_19 (by decide) (fun c19 => ?_) (fun c19 => ?_)
        · exact absurd c19 (by decide)
        · refine r_aload_n dX11_pay_22 rfl ?_
          refine r_getR dX11_pay_23 flX11_100 sh_347 (by decide) rfl (pf_347_53 hP) ?_
          refine r_aload_n dX11_pay_26 rfl ?_
          refine r_getR dX11_pay_27 flX11_109 sh_347 (by decide) rfl (pf_347_56 hP) ?_
          refine r_iload_n dX11_pay_30 rfl ?_
          refine r_ialv dX11_pay_31 sh_379 (vin12 h7.1 h7.2.2) (rR3 _ _ (vin12 h7.1 h7.2.2)) ?_
          refine r_ialv dX11_pay_32 sh_376 (iz6 (hv.2.2.1 _)) (rZ1 _ _ (hv.2.2.1 _)) ?_
          refine r_aload_n dX11_pay_33 rfl ?_
          refine r_getR dX11_pay_34 flX11_121 sh_347 (by decide) rfl (pf_347_60 hP) ?_
          refine r_iload_n dX11_pay_37 rfl ?_
          refine r_ialv dX11_pay_38 sh_383 (iz12 (vin12 h7.1 h7.2.2)) (rZ5 _ _ (vin12 h7.1 h7.2.2)) ?_
          refine r_ic_ge 44 dX11_pay_39 (by decide) (fun c39 => ?_) (fun c39 => ?_)
          · refine r_aload_n dX11_pay_44 rfl ?_
            refine r_cV0v dX11_pay_45 vlX11_473 sh_347 (Nat.le_of_ble_eq_true rfl) (k_rem hP hu20 hu d) ?_
            refine r_aload_n dX11_pay_48 rfl ?_
            refine r_iconst (v := 0) dX11_pay_49 (by decide) ?_
            refine r_iload_n dX11_pay_50 rfl ?_
            refine r_cV2v dX11_pay_51 vlX11_452 sh_347 (Nat.le_of_ble_eq_true rfl) (k_paid (b := 0) hP (by decide) hv (vin12 h7.1 h7.2.2) (d + 1)) ?_
            refine r_iconst (v := 1) dX11_pay_54 (by decide) ?_
            exact r_iret dX11_pay_55 rfl rfl rfl rfl
          · refine r_iconst (v := 0) dX11_pay_42 (by decide) ?_
            exact absurd (Int32.not_le.mp c39) h.2
      · refine r_cV2i dX11_pay_16 vlX11_418 sh_347 (Nat.le_of_ble_eq_true rfl) (k_rTh0_f hP (vin12 h7.1 h7.2.2) h16 (d + 1)) ?_
        refine r_if_eq 42 dX11_pay_19 (by decide) (fun c19 => ?_) (fun c19 => ?_)
        · refine r_iconst (v := 0) dX11_pay_42 (by decide) ?_
          exact absurd h.1.2 h16
        · exact absurd c19 (by decide)
  · refine r_cV1i dX11_pay_7 vlX11_465 sh_347 (Nat.le_of_ble_eq_true rfl) (k_rStr_f hP hv h7 (d + 1)) ?_
    refine r_if_eq 42 dX11_pay_10 (by decide) (fun c10 => ?_) (fun c10 => ?_)
    · refine r_iconst (v := 0) dX11_pay_42 (by decide) ?_
      exact absurd h.1.1 h7
    · exact absurd c10 (by decide)
set_option maxHeartbeats 1000000 in
theorem k_rpay_f {E : xCl} {ex : Bool} {I I0 V : Nat → Nat → Int32} {e : Int32} {J : Nat → Nat → Int64} {P : Nat → Nat → Nat} (hP : Pok P) (hI : xu I 347 2 0 = I0)  {n : Nat} (hv : Vok V n) {x : Int32} (h : ¬ sCan V x) (d : Nat) : xEx E ex (d + 3) yX11_pay [.ref 347, .int x] (SH, wR (wE I e) 0 V, J, P) (some (.int 0)) (SH, wR (wE I0 e) 0 V, J, P) := by
  refine x_enter cqX11_pay [some (.ref 347), some (.int x)] rfl (by simp [lg_sl, Value.category]) ?_
  refine r_aload_n dX11_pay_0 rfl ?_
  refine r_iconst (v := 0) dX11_pay_1 (by decide) ?_
  refine r_putIv dX11_pay_2 flX11_193 ⟨_, _, _, rfl, Or.inl rfl⟩ sh_347 (by decide) rfl rfl rfl ((wR_xo _ _ _ (by decide) _ _).trans (congrArg (fun z => wR z _ _) ((wE_c _ _ _ (by decide)).trans (congrArg (fun z => wE z _) hI)))) ?_
  refine r_aload_n dX11_pay_5 rfl ?_
  refine r_iload_n dX11_pay_6 rfl ?_
  by_cases h7 : sSt V x
  · refine r_cV1i dX11_pay_7 vlX11_465 sh_347 (Nat.le_of_ble_eq_true rfl) (k_rStr_t hP hv h7 (d + 1)) ?_
    refine r_if_eq 42 dX11_pay_10 (by decide) (fun c10 => ?_) (fun c10 => ?_)
    · exact absurd c10 (by decide)
    · refine r_aload_n dX11_pay_13 rfl ?_
      refine r_iconst (v := 0) dX11_pay_14 (by decide) ?_
      refine r_iload_n dX11_pay_15 rfl ?_
      by_cases h16 : V 9 x.toNatClampNeg = 0
      · refine r_cV2i dX11_pay_16 vlX11_418 sh_347 (Nat.le_of_ble_eq_true rfl) (k_rTh0_t hP (vin12 h7.1 h7.2.2) h16 (d + 1)) ?_
        refine r_if_eq 42 dX11_pay_19 (by decide) (fun c19 => ?_) (fun c19 => ?_)
        · exact absurd c19 (by decide)
        · refine r_aload_n dX11_pay_22 rfl ?_
          refine r_getR dX11_pay_23 flX11_100 sh_347 (by decide) rfl (pf_347_53 hP) ?_
          refine r_aload_n dX11_pay_26 rfl ?_
          refine r_getR dX11_pay_27 flX11_109 sh_347 (by decide) rfl (pf_347_56 hP) ?_
          refine r_iload_n dX11_pay_30 rfl ?_
          refine r_ialv dX11_pay_31 sh_379 (vin12 h7.1 h7.2.2) (rR3 _ _ (vin12 h7.1 h7.2.2)) ?_
          refine r_ialv dX11_pay_32 sh_376 (iz6 (hv.2.2.1 _)) (rZ1 _ _ (hv.2.2.1 _)) ?_
          refine r_aload_n dX11_pay_33 rfl ?_
          refine r_getR dX11_pay_34 flX11_121 sh_347 (by decide) rfl (pf_347_60 hP) ?_
          refine r_iload_n dX11_pay_37 rfl ?_
          refine r_ialv dX11_pay_38 sh_383 (iz12 (vin12 h7.1 h7.2.2)) (rZ5 _ _ (vin12 h7.1 h7.2.2)) ?_
          refine r_ic_ge 44 dX11_pay_39 (by decide) (fun c39 => ?_) (fun c39 => ?_)
          · exact absurd ⟨⟨h7, h16⟩, Int32.not_lt.mpr c39⟩ h
          · refine r_iconst (v := 0) dX11_pay_42 (by decide) ?_
            exact r_iret dX11_pay_43 rfl rfl rfl rfl
      · refine r_cV2i dX11_pay_16 vlX11_418 sh_347 (Nat.le_of_ble_eq_true rfl) (k_rTh0_f hP (vin12 h7.1 h7.2.2) h16 (d + 1)) ?_
        refine r_if_eq 42 dX11_pay_19 (by decide) (fun c19 => ?_) (fun c19 => ?_)
        · refine r_iconst (v := 0) dX11_pay_42 (by decide) ?_
          exact r_iret dX11_pay_43 rfl rfl rfl rfl
        · exact absurd c19 (by decide)
  · refine r_cV1i dX11_pay_7 vlX11_465 sh_347 (Nat.le_of_ble_eq_true rfl) (k_rStr_f hP hv h7 (d + 1)) ?_
    refine r_if_eq 42 dX11_pay_10 (by decide) (fun c10 => ?_) (fun c10 => ?_)
    · refine r_iconst (v := 0) dX11_pay_42 (by decide) ?_
      exact r_iret dX11_pay_43 rfl rfl rfl rfl
    · exact absurd c10 (by decide)
def rUn (V : Nat → Nat → Int32) (k : Nat) : Nat → Nat → Int32 := if V 10 k < 0 then xu V 10 k (-1) else xu (xu V 10 k (-1)) 10 (V 10 k).toNatClampNeg (-1)
set_option maxHeartbeats 1000000 in
theorem k_untwists {E : xCl} {ex : Bool} {I V : Nat → Nat → Int32} {e : Int32} {J : Nat → Nat → Int64} {P : Nat → Nat → Nat} (hP : Pok P)  {x : Int32} (hx : vp_in x 12) (ht : V 10 x.toNatClampNeg < 0 ∨ vp_in (V 10 x.toNatClampNeg) 12) (d : Nat) : xEx E ex (d + 1) yX11_untwists [.ref 347, .int x] (SH, wR (wE I e) 0 V, J, P) none (SH, wR (wE I e) 0 (rUn V x.toNatClampNeg), J, P) := by
  refine x_enter cqX11_untwists [some (.ref 347), some (.int x), none] rfl (by simp [lg_sl, Value.category]) ?_
  refine r_aload_n dX11_untwists_0 rfl ?_
  refine r_getR dX11_untwists_1 flX11_130 sh_347 (by decide) rfl (pf_347_63 hP) ?_
  refine r_iload_n dX11_untwists_4 rfl ?_
  refine r_ialv dX11_untwists_5 sh_386 (iz12 hx) (rZ10 _ _ hx) ?_
  refine r_istore_n2 dX11_untwists_6 rfl ?_
  refine r_aload_n dX11_untwists_7 rfl ?_
  refine r_getR dX11_untwists_8 flX11_130 sh_347 (by decide) rfl (pf_347_63 hP) ?_
  refine r_iload_n dX11_untwists_11 rfl ?_
  refine r_iconst (v := (-1)) dX11_untwists_12 (by decide) ?_
  refine r_iasv dX11_untwists_13 sh_386 (iz12 hx) (rY10 _ _ hx _) ?_
  refine r_iload_n dX11_untwists_14 rfl ?_
  refine r_if_lt 25 dX11_untwists_15 (by decide) (fun c15 => ?_) (fun c15 => ?_)
  · exact r_vret dX11_untwists_25 rfl rfl (by rw [rUn, if_pos c15])
  · refine r_aload_n dX11_untwists_18 rfl ?_
    refine r_getR dX11_untwists_19 flX11_130 sh_347 (by decide) rfl (pf_347_63 hP) ?_
    refine r_iload_n dX11_untwists_22 rfl ?_
    refine r_iconst (v := (-1)) dX11_untwists_23 (by decide) ?_
    refine r_iasv dX11_untwists_24 sh_386 (iz12 (ht.resolve_left c15)) (rY10 _ _ (ht.resolve_left c15) _) ?_
    exact r_vret dX11_untwists_25 rfl rfl (by rw [rUn, if_neg c15])
/-- twins, where they are, lie in their row -/
def T12 (V : Nat → Nat → Int32) : Prop := ∀ k, k < 12 → V 10 k < 0 ∨ vp_in (V 10 k) 12
theorem T12.un {V : Nat → Nat → Int32} (h : T12 V) (k : Nat) : T12 (rUn V k) := by
  intro q hq
  have m1 : ∀ (x : Int32), x = -1 → x < 0 := fun x hx => by rw [hx]; decide
  unfold rUn
  split
  · simp only [xu]; split
    · exact Or.inl (by decide)
    · exact h q hq
  · simp only [xu]; split
    · exact Or.inl (by decide)
    · split
      · exact Or.inl (by decide)
      · exact h q hq
abbrev rOkT (V : Nat → Nat → Int32) (a c : Int32) : Prop := sTh V a ∧ sTh V c ∧ ¬ (if a = c then V 10 a.toNatClampNeg < 0 else V 10 a.toNatClampNeg = c)
def rTs (V : Nat → Nat → Int32) (a c : Int32) : Nat → Nat → Int32 := if a = c then rUn (rUn V a.toNatClampNeg) c.toNatClampNeg else xu (xu (rUn (rUn V a.toNatClampNeg) c.toNatClampNeg) 10 a.toNatClampNeg c) 10 c.toNatClampNeg a
set_option maxHeartbeats 2000000 in
theorem k_rtwist_t {E : xCl} {ex : Bool} {I I0 V : Nat → Nat → Int32} {e : Int32} {J : Nat → Nat → Int64} {P : Nat → Nat → Nat} (hP : Pok P) (hI : xu I 347 2 0 = I0)  {n : Nat} (hv : Vok V n) {u : Nat} (hu20 : u ≤ 20) (hu : I0 347 83 = nI u) (h12 : T12 V) {a c : Int32} (h : rOkT V a c) (d : Nat) : xEx E ex (d + 3) yX11_twist [.ref 347, .int a, .int c] (SH, wR (wE I e) 0 V, J, P) (some (.int 1)) (SH, wR (wE (rRem I0 V u) e) 0 (rTs V a c), J, P) := by
  refine x_enter cqX11_twist [some (.ref 347), some (.int a), some (.int c)] rfl (by simp [lg_sl, Value.category]) ?_
  refine r_aload_n dX11_twist_0 rfl ?_
  refine r_iconst (v := 0) dX11_twist_1 (by decide) ?_
  refine r_putIv dX11_twist_2 flX11_193 ⟨_, _, _, rfl, Or.inl rfl⟩ sh_347 (by decide) rfl rfl rfl ((wR_xo _ _ _ (by decide) _ _).trans (congrArg (fun z => wR z _ _) ((wE_c _ _ _ (by decide)).trans (congrArg (fun z => wE z _) hI)))) ?_
  refine r_aload_n dX11_twist_5 rfl ?_
  refine r_iload_n dX11_twist_6 rfl ?_
  by_cases h7 : sSt V a
  · refine r_cV1i dX11_twist_7 vlX11_465 sh_347 (Nat.le_of_ble_eq_true rfl) (k_rStr_t hP hv h7 (d + 1)) ?_
    refine r_if_eq 39 dX11_twist_10 (by decide) (fun c10 => ?_) (fun c10 => ?_)
    · exact absurd c10 (by decide)
    · refine r_aload_n dX11_twist_13 rfl ?_
      refine r_iload_n dX11_twist_14 rfl ?_
      by_cases h15 : sSt V c
      · refine r_cV1i dX11_twist_15 vlX11_465 sh_347 (Nat.le_of_ble_eq_true rfl) (k_rStr_t hP hv h15 (d + 1)) ?_
        refine r_if_eq 39 dX11_twist_18 (by decide) (fun c18 => ?_) (fun c18 => ?_)
        · exact absurd c18 (by decide)
        · refine r_aload_n dX11_twist_21 rfl ?_
          refine r_iconst (v := 0) dX11_twist_22 (by decide) ?_
          refine r_iload_n dX11_twist_23 rfl ?_
          by_cases h24 : V 9 a.toNatClampNeg = 0
          · refine r_cV2i dX11_twist_24 vlX11_418 sh_347 (Nat.le_of_ble_eq_true rfl) (k_rTh0_t hP (vin12 h7.1 h7.2.2) h24 (d + 1)) ?_
            refine r_if_eq 39 dX11_twist_27 (by decide) (fun c27 => ?_) (fun c27 => ?_)
            · exact absurd c27 (by decide)
            · refine r_aload_n dX11_twist_30 rfl ?_
              refine r_iconst (v := 0) dX11_twist_31 (by decide) ?_
              refine r_iload_n dX11_twist_32 rfl ?_
              by_cases h33 : V 9 c.toNatClampNeg = 0
              · refine r_cV2i dX11_twist_33 vlX11_418 sh_347 (Nat.le_of_ble_eq_true rfl) (k_rTh0_t hP (vin12 h15.1 h15.2.2) h33 (d + 1)) ?_
                refine r_if_ne 41 dX11_twist_36 (by decide) (fun c36 => ?_) (fun c36 => ?_)
                · refine r_iload_n dX11_twist_41 rfl ?_
                  refine r_iload_n dX11_twist_42 rfl ?_
                  refine r_ic_ne 58 dX11_twist_43 (by decide) (fun c43 => ?_) (fun c43 => ?_)
                  · refine r_aload_n dX11_twist_58 rfl ?_
                    refine r_getR dX11_twist_59 flX11_130 sh_347 (by decide) rfl (pf_347_63 hP) ?_
                    refine r_iload_n dX11_twist_62 rfl ?_
                    refine r_ialv dX11_twist_63 sh_386 (iz12 (vin12 h7.1 h7.2.2)) (rZ10 _ _ (vin12 h7.1 h7.2.2)) ?_
                    refine r_iload_n dX11_twist_64 rfl ?_
                    refine r_ic_ne 70 dX11_twist_65 (by decide) (fun c65 => ?_) (fun c65 => ?_)
                    · refine r_aload_n dX11_twist_70 rfl ?_
                      refine r_cV0v dX11_twist_71 vlX11_473 sh_347 (Nat.le_of_ble_eq_true rfl) (k_rem hP hu20 hu d) ?_
                      refine r_aload_n dX11_twist_74 rfl ?_
                      refine r_iload_n dX11_twist_75 rfl ?_
                      refine r_cV1v dX11_twist_76 vlX11_476 sh_347 (Nat.le_of_ble_eq_true rfl) (k_untwists hP (vin12 h7.1 h7.2.2) (h12 _ (vlt (vin12 h7.1 h7.2.2))) (d + 1)) ?_
                      refine r_aload_n dX11_twist_79 rfl ?_
                      refine r_iload_n dX11_twist_80 rfl ?_
                      refine r_cV1v dX11_twist_81 vlX11_476 sh_347 (Nat.le_of_ble_eq_true rfl) (k_untwists hP (vin12 h15.1 h15.2.2) (h12.un _ _ (vlt (vin12 h15.1 h15.2.2))) (d + 1)) ?_
                      refine r_iload_n dX11_twist_84 rfl ?_
                      refine r_iload_n dX11_twist_85 rfl ?_
                      refine r_ic_ne 91 dX11_twist_86 (by decide) (fun c86 => ?_) (fun c86 => ?_)
                      · refine r_aload_n dX11_twist_91 rfl ?_
                        refine r_getR dX11_twist_92 flX11_130 sh_347 (by decide) rfl (pf_347_63 hP) ?_
                        refine r_iload_n dX11_twist_95 rfl ?_
                        refine r_iload_n dX11_twist_96 rfl ?_
                        refine r_iasv dX11_twist_97 sh_386 (iz12 (vin12 h7.1 h7.2.2)) (rY10 _ _ (vin12 h7.1 h7.2.2) _) ?_
                        refine r_aload_n dX11_twist_98 rfl ?_
                        refine r_getR dX11_twist_99 flX11_130 sh_347 (by decide) rfl (pf_347_63 hP) ?_
                        refine r_iload_n dX11_twist_102 rfl ?_
                        refine r_iload_n dX11_twist_103 rfl ?_
                        refine r_iasv dX11_twist_104 sh_386 (iz12 (vin12 h15.1 h15.2.2)) (rY10 _ _ (vin12 h15.1 h15.2.2) _) ?_
                        refine r_iconst (v := 1) dX11_twist_105 (by decide) ?_
                        exact r_iret dX11_twist_106 rfl rfl rfl (by rw [rTs, if_neg c86])
                      · refine r_iconst (v := 1) dX11_twist_89 (by decide) ?_
                        exact r_iret dX11_twist_90 rfl rfl rfl (by rw [rTs, if_pos c86])
                    · refine r_iconst (v := 0) dX11_twist_68 (by decide) ?_
                      exact absurd (by rw [if_neg c43]; exact c65) h.2.2
                  · refine r_aload_n dX11_twist_46 rfl ?_
                    refine r_getR dX11_twist_47 flX11_130 sh_347 (by decide) rfl (pf_347_63 hP) ?_
                    refine r_iload_n dX11_twist_50 rfl ?_
                    refine r_ialv dX11_twist_51 sh_386 (iz12 (vin12 h7.1 h7.2.2)) (rZ10 _ _ (vin12 h7.1 h7.2.2)) ?_
                    refine r_if_ge 70 dX11_twist_52 (by decide) (fun c52 => ?_) (fun c52 => ?_)
                    · refine r_aload_n dX11_twist_70 rfl ?_
                      refine r_cV0v dX11_twist_71 vlX11_473 sh_347 (Nat.le_of_ble_eq_true rfl) (k_rem hP hu20 hu d) ?_
                      refine r_aload_n dX11_twist_74 rfl ?_
                      refine r_iload_n dX11_twist_75 rfl ?_
                      refine r_cV1v dX11_twist_76 vlX11_476 sh_347 (Nat.le_of_ble_eq_true rfl) (k_untwists hP (vin12 h7.1 h7.2.2) (h12 _ (vlt (vin12 h7.1 h7.2.2))) (d + 1)) ?_
                      refine r_aload_n dX11_twist_79 rfl ?_
                      refine r_iload_n dX11_twist_80 rfl ?_
                      refine r_cV1v dX11_twist_81 vlX11_476 sh_347 (Nat.le_of_ble_eq_true rfl) (k_untwists hP (vin12 h15.1 h15.2.2) (h12.un _ _ (vlt (vin12 h15.1 h15.2.2))) (d + 1)) ?_
                      refine r_iload_n dX11_twist_84 rfl ?_
                      refine r_iload_n dX11_twist_85 rfl ?_
                      refine r_ic_ne 91 dX11_twist_86 (by decide) (fun c86 => ?_) (fun c86 => ?_)
                      · refine r_aload_n dX11_twist_91 rfl ?_
                        refine r_getR dX11_twist_92 flX11_130 sh_347 (by decide) rfl (pf_347_63 hP) ?_
                        refine r_iload_n dX11_twist_95 rfl ?_
                        refine r_iload_n dX11_twist_96 rfl ?_
                        refine r_iasv dX11_twist_97 sh_386 (iz12 (vin12 h7.1 h7.2.2)) (rY10 _ _ (vin12 h7.1 h7.2.2) _) ?_
                        refine r_aload_n dX11_twist_98 rfl ?_
                        refine r_getR dX11_twist_99 flX11_130 sh_347 (by decide) rfl (pf_347_63 hP) ?_
                        refine r_iload_n dX11_twist_102 rfl ?_
                        refine r_iload_n dX11_twist_103 rfl ?_
                        refine r_iasv dX11_twist_104 sh_386 (iz12 (vin12 h15.1 h15.2.2)) (rY10 _ _ (vin12 h15.1 h15.2.2) _) ?_
                        refine r_iconst (v := 1) dX11_twist_105 (by decide) ?_
                        exact r_iret dX11_twist_106 rfl rfl rfl (by rw [rTs, if_neg c86])
                      · refine r_iconst (v := 1) dX11_twist_89 (by decide) ?_
                        exact r_iret dX11_twist_90 rfl rfl rfl (by rw [rTs, if_pos c86])
                    · refine r_goto 68 dX11_twist_55 (by decide) ?_
                      refine r_iconst (v := 0) dX11_twist_68 (by decide) ?_
                      exact absurd (by rw [if_pos c43]; exact Int32.not_le.mp c52) h.2.2
                · exact absurd c36 (by decide)
              · refine r_cV2i dX11_twist_33 vlX11_418 sh_347 (Nat.le_of_ble_eq_true rfl) (k_rTh0_f hP (vin12 h15.1 h15.2.2) h33 (d + 1)) ?_
                refine r_if_ne 41 dX11_twist_36 (by decide) (fun c36 => ?_) (fun c36 => ?_)
                · exact absurd c36 (by decide)
                · refine r_iconst (v := 0) dX11_twist_39 (by decide) ?_
                  exact absurd h.2.1.2 h33
          · refine r_cV2i dX11_twist_24 vlX11_418 sh_347 (Nat.le_of_ble_eq_true rfl) (k_rTh0_f hP (vin12 h7.1 h7.2.2) h24 (d + 1)) ?_
            refine r_if_eq 39 dX11_twist_27 (by decide) (fun c27 => ?_) (fun c27 => ?_)
            · refine r_iconst (v := 0) dX11_twist_39 (by decide) ?_
              exact absurd h.1.2 h24
            · exact absurd c27 (by decide)
      · refine r_cV1i dX11_twist_15 vlX11_465 sh_347 (Nat.le_of_ble_eq_true rfl) (k_rStr_f hP hv h15 (d + 1)) ?_
        refine r_if_eq 39 dX11_twist_18 (by decide) (fun c18 => ?_) (fun c18 => ?_)
        · refine r_iconst (v := 0) dX11_twist_39 (by decide) ?_
          exact absurd h.2.1.1 h15
        · exact absurd c18 (by decide)
  · refine r_cV1i dX11_twist_7 vlX11_465 sh_347 (Nat.le_of_ble_eq_true rfl) (k_rStr_f hP hv h7 (d + 1)) ?_
    refine r_if_eq 39 dX11_twist_10 (by decide) (fun c10 => ?_) (fun c10 => ?_)
    · refine r_iconst (v := 0) dX11_twist_39 (by decide) ?_
      exact absurd h.1.1 h7
    · exact absurd c10 (by decide)
set_option maxHeartbeats 2000000 in
theorem k_rtwist_f {E : xCl} {ex : Bool} {I I0 V : Nat → Nat → Int32} {e : Int32} {J : Nat → Nat → Int64} {P : Nat → Nat → Nat} (hP : Pok P) (hI : xu I 347 2 0 = I0)  {n : Nat} (hv : Vok V n) {a c : Int32} (h : ¬ rOkT V a c) (d : Nat) : xEx E ex (d + 3) yX11_twist [.ref 347, .int a, .int c] (SH, wR (wE I e) 0 V, J, P) (some (.int 0)) (SH, wR (wE I0 e) 0 V, J, P) := by
  refine x_enter cqX11_twist [some (.ref 347), some (.int a), some (.int c)] rfl (by simp [lg_sl, Value.category]) ?_
  refine r_aload_n dX11_twist_0 rfl ?_
  refine r_iconst (v := 0) dX11_twist_1 (by decide) ?_
  refine r_putIv dX11_twist_2 flX11_193 ⟨_, _, _, rfl, Or.inl rfl⟩ sh_347 (by decide) rfl rfl rfl ((wR_xo _ _ _ (by decide) _ _).trans (congrArg (fun z => wR z _ _) ((wE_c _ _ _ (by decide)).trans (congrArg (fun z => wE z _) hI)))) ?_
  refine r_aload_n dX11_twist_5 rfl ?_
  refine r_iload_n dX11_twist_6 rfl ?_
  by_cases h7 : sSt V a
  · refine r_cV1i dX11_twist_7 vlX11_465 sh_347 (Nat.le_of_ble_eq_true rfl) (k_rStr_t hP hv h7 (d + 1)) ?_
    refine r_if_eq 39 dX11_twist_10 (by decide) (fun c10 => ?_) (fun c10 => ?_)
    · exact absurd c10 (by decide)
    · refine r_aload_n dX11_twist_13 rfl ?_
      refine r_iload_n dX11_twist_14 rfl ?_
      by_cases h15 : sSt V c
      · refine r_cV1i dX11_twist_15 vlX11_465 sh_347 (Nat.le_of_ble_eq_true rfl) (k_rStr_t hP hv h15 (d + 1)) ?_
        refine r_if_eq 39 dX11_twist_18 (by decide) (fun c18 => ?_) (fun c18 => ?_)
        · exact absurd c18 (by decide)
        · refine r_aload_n dX11_twist_21 rfl ?_
          refine r_iconst (v := 0) dX11_twist_22 (by decide) ?_
          refine r_iload_n dX11_twist_23 rfl ?_
          by_cases h24 : V 9 a.toNatClampNeg = 0
          · refine r_cV2i dX11_twist_24 vlX11_418 sh_347 (Nat.le_of_ble_eq_true rfl) (k_rTh0_t hP (vin12 h7.1 h7.2.2) h24 (d + 1)) ?_
            refine r_if_eq 39 dX11_twist_27 (by decide) (fun c27 => ?_) (fun c27 => ?_)
            · exact absurd c27 (by decide)
            · refine r_aload_n dX11_twist_30 rfl ?_
              refine r_iconst (v := 0) dX11_twist_31 (by decide) ?_
              refine r_iload_n dX11_twist_32 rfl ?_
              by_cases h33 : V 9 c.toNatClampNeg = 0
              · refine r_cV2i dX11_twist_33 vlX11_418 sh_347 (Nat.le_of_ble_eq_true rfl) (k_rTh0_t hP (vin12 h15.1 h15.2.2) h33 (d + 1)) ?_
                refine r_if_ne 41 dX11_twist_36 (by decide) (fun c36 => ?_) (fun c36 => ?_)
                · refine r_iload_n dX11_twist_41 rfl ?_
                  refine r_iload_n dX11_twist_42 rfl ?_
                  refine r_ic_ne 58 dX11_twist_43 (by decide) (fun c43 => ?_) (fun c43 => ?_)
                  · refine r_aload_n dX11_twist_58 rfl ?_
                    refine r_getR dX11_twist_59 flX11_130 sh_347 (by decide) rfl (pf_347_63 hP) ?_
                    refine r_iload_n dX11_twist_62 rfl ?_
                    refine r_ialv dX11_twist_63 sh_386 (iz12 (vin12 h7.1 h7.2.2)) (rZ10 _ _ (vin12 h7.1 h7.2.2)) ?_
                    refine r_iload_n dX11_twist_64 rfl ?_
                    refine r_ic_ne 70 dX11_twist_65 (by decide) (fun c65 => ?_) (fun c65 => ?_)
                    · exact absurd ⟨⟨h7, h24⟩, ⟨h15, h33⟩, by rw [if_neg c43]; exact c65⟩ h
                    · refine r_iconst (v := 0) dX11_twist_68 (by decide) ?_
                      exact r_iret dX11_twist_69 rfl rfl rfl rfl
                  · refine r_aload_n dX11_twist_46 rfl ?_
                    refine r_getR dX11_twist_47 flX11_130 sh_347 (by decide) rfl (pf_347_63 hP) ?_
                    refine r_iload_n dX11_twist_50 rfl ?_
                    refine r_ialv dX11_twist_51 sh_386 (iz12 (vin12 h7.1 h7.2.2)) (rZ10 _ _ (vin12 h7.1 h7.2.2)) ?_
                    refine r_if_ge 70 dX11_twist_52 (by decide) (fun c52 => ?_) (fun c52 => ?_)
                    · exact absurd ⟨⟨h7, h24⟩, ⟨h15, h33⟩, by rw [if_pos c43]; exact Int32.not_lt.mpr c52⟩ h
                    · refine r_goto 68 dX11_twist_55 (by decide) ?_
                      refine r_iconst (v := 0) dX11_twist_68 (by decide) ?_
                      exact r_iret dX11_twist_69 rfl rfl rfl rfl
                · exact absurd c36 (by decide)
              · refine r_cV2i dX11_twist_33 vlX11_418 sh_347 (Nat.le_of_ble_eq_true rfl) (k_rTh0_f hP (vin12 h15.1 h15.2.2) h33 (d + 1)) ?_
                refine r_if_ne 41 dX11_twist_36 (by decide) (fun c36 => ?_) (fun c36 => ?_)
                · exact absurd c36 (by decide)
                · refine r_iconst (v := 0) dX11_twist_39 (by decide) ?_
                  exact r_iret dX11_twist_40 rfl rfl rfl rfl
          · refine r_cV2i dX11_twist_24 vlX11_418 sh_347 (Nat.le_of_ble_eq_true rfl) (k_rTh0_f hP (vin12 h7.1 h7.2.2) h24 (d + 1)) ?_
            refine r_if_eq 39 dX11_twist_27 (by decide) (fun c27 => ?_) (fun c27 => ?_)
            · refine r_iconst (v := 0) dX11_twist_39 (by decide) ?_
              exact r_iret dX11_twist_40 rfl rfl rfl rfl
            · exact absurd c27 (by decide)
      · refine r_cV1i dX11_twist_15 vlX11_465 sh_347 (Nat.le_of_ble_eq_true rfl) (k_rStr_f hP hv h15 (d + 1)) ?_
        refine r_if_eq 39 dX11_twist_18 (by decide) (fun c18 => ?_) (fun c18 => ?_)
        · refine r_iconst (v := 0) dX11_twist_39 (by decide) ?_
          exact r_iret dX11_twist_40 rfl rfl rfl rfl
        · exact absurd c18 (by decide)
  · refine r_cV1i dX11_twist_7 vlX11_465 sh_347 (Nat.le_of_ble_eq_true rfl) (k_rStr_f hP hv h7 (d + 1)) ?_
    refine r_if_eq 39 dX11_twist_10 (by decide) (fun c10 => ?_) (fun c10 => ?_)
    · refine r_iconst (v := 0) dX11_twist_39 (by decide) ?_
      exact r_iret dX11_twist_40 rfl rfl rfl rfl
    · exact absurd c10 (by decide)
abbrev rOkY (I : Nat → Nat → Int32) (n : Nat) (a c w u : Int32) : Prop := (¬ a < 0 ∧ ¬ I 347 12 ≤ a) ∧ (¬ c < 0 ∧ ¬ I 347 12 ≤ c) ∧ ¬ I 353 a.toNatClampNeg = I 353 c.toNatClampNeg ∧ (¬ w < 1 ∧ ¬ 999 < w) ∧ (¬ u < 0 ∧ ¬ 99 < u) ∧ n < 12
def rAdd (V : Nat → Nat → Int32) (n : Nat) (a c w u : Int32) : Nat → Nat → Int32 := (fun W => xu (xu W 12 0 (setB (W 12 0) n 0)) 13 0 (nI (n + 1))) (xu (xu (xu (xu (xu (xu (xu (xu V 3 n a) 4 n c) 8 n (V 15 0)) 7 n u) 5 n w) 6 n 0) 9 n 0) 10 n (-1))
set_option maxHeartbeats 4000000 in
theorem k_rtie_t {E : xCl} {ex : Bool} {I I0 V : Nat → Nat → Int32} {e : Int32} {J : Nat → Nat → Int64} {P : Nat → Nat → Nat} (hP : Pok P) (hI : xu I 347 2 0 = I0)  {n : Nat} (hv : Vok V n) {u : Nat} (hu20 : u ≤ 20) (hu : I0 347 83 = nI u) {np : Nat} (hnp : np ≤ 6) (h12 : I0 347 12 = nI np) {a c w v : Int32} (h : rOkY I0 n a c w v) (hin : vp_in (V 13 0) 12) (hcl : (V 13 0).toNatClampNeg = n) (d : Nat) : xEx E ex (d + 3) yX11_tie [.ref 347, .int a, .int c, .int w, .int v] (SH, wR (wE I e) 0 V, J, P) (some (.int (nI n))) (SH, wR (wE (rRem I0 V u) e) 0 (rAdd V n a c w v), J, P) := by
  refine x_enter cqX11_tie [some (.ref 347), some (.int a), some (.int c), some (.int w), some (.int v), none] rfl (by simp [lg_sl, Value.category]) ?_
  refine r_aload_n dX11_tie_0 rfl ?_
  refine r_iconst (v := 0) dX11_tie_1 (by decide) ?_
  refine r_putIv dX11_tie_2 flX11_193 ⟨_, _, _, rfl, Or.inl rfl⟩ sh_347 (by decide) rfl rfl rfl ((wR_xo _ _ _ (by decide) _ _).trans (congrArg (fun z => wR z _ _) ((wE_c _ _ _ (by decide)).trans (congrArg (fun z => wE z _) hI)))) ?_
  refine r_aload_n dX11_tie_5 rfl ?_
  refine r_iload_n dX11_tie_6 rfl ?_
  by_cases h7 : ¬ a < 0 ∧ ¬ I0 347 12 ≤ a
  · refine r_cV1i dX11_tie_7 vlX11_456 sh_347 (Nat.le_of_ble_eq_true rfl) (k_rPer_t (b := 0) h7 (d + 1)) ?_
    refine r_if_eq 69 dX11_tie_10 (by decide) (fun c10 => ?_) (fun c10 => ?_)
    · exact absurd c10 (by decide)
    · refine r_aload_n dX11_tie_13 rfl ?_
      refine r_iload_n dX11_tie_14 rfl ?_
      by_cases h15 : ¬ c < 0 ∧ ¬ I0 347 12 ≤ c
      · refine r_cV1i dX11_tie_15 vlX11_456 sh_347 (Nat.le_of_ble_eq_true rfl) (k_rPer_t (b := 0) h15 (d + 1)) ?_
        refine r_if_eq 69 dX11_tie_18 (by decide) (fun c18 => ?_) (fun c18 => ?_)
        · exact absurd c18 (by decide)
        · refine r_aload_n dX11_tie_21 rfl ?_
          refine r_getR dX11_tie_22 flX11_30 sh_347 (by decide) rfl (pf_347_23 hP) ?_
          refine r_iload_n dX11_tie_25 rfl ?_
          refine r_ialv dX11_tie_26 sh_353 (iz6 (in6p hnp h12 h7.1 h7.2)) ((wR_o _ _ _ (by decide) _).trans (wE_o _ _ (by decide) _)) ?_
          refine r_aload_n dX11_tie_27 rfl ?_
          refine r_getR dX11_tie_28 flX11_30 sh_347 (by decide) rfl (pf_347_23 hP) ?_
          refine r_iload_n dX11_tie_31 rfl ?_
          refine r_ialv dX11_tie_32 sh_353 (iz6 (in6p hnp h12 h15.1 h15.2)) ((wR_o _ _ _ (by decide) _).trans (wE_o _ _ (by decide) _)) ?_
          refine r_ic_eq 69 dX11_tie_33 (by decide) (fun c33 => ?_) (fun c33 => ?_)
          · refine r_iconst (v := (-1)) dX11_tie_69 (by decide) ?_
            exact absurd c33 h.2.2.1
          · refine r_iload_n dX11_tie_36 rfl ?_
            refine r_iconst (v := 1) dX11_tie_37 (by decide) ?_
            refine r_sipush (v := 999) dX11_tie_38 (by decide) ?_
            by_cases h41 : ¬ w < 1 ∧ ¬ 999 < w
            · refine r_cS3i dX11_tie_41 slX11_238 (Nat.le_of_ble_eq_true rfl) (k_isIn_t h41 (d + 1)) ?_
              refine r_if_eq 69 dX11_tie_44 (by decide) (fun c44 => ?_) (fun c44 => ?_)
              · exact absurd c44 (by decide)
              · refine r_iload dX11_tie_47 rfl ?_
                refine r_iconst (v := 0) dX11_tie_49 (by decide) ?_
                refine r_bipush (v := 99) dX11_tie_50 (by decide) ?_
                by_cases h52 : ¬ v < 0 ∧ ¬ 99 < v
                · refine r_cS3i dX11_tie_52 slX11_238 (Nat.le_of_ble_eq_true rfl) (k_isIn_t h52 (d + 1)) ?_
                  refine r_if_eq 69 dX11_tie_55 (by decide) (fun c55 => ?_) (fun c55 => ?_)
                  · exact absurd c55 (by decide)
                  · refine r_aload_n dX11_tie_58 rfl ?_
                    refine r_getR dX11_tie_59 flX11_106 sh_347 (by decide) rfl (pf_347_55 hP) ?_
                    refine r_iconst (v := 0) dX11_tie_62 (by decide) ?_
                    refine r_ialv dX11_tie_63 sh_378 ix2_0 (rS13_0 _ _) ?_
                    refine r_bipush (v := 12) dX11_tie_64 (by decide) ?_
                    refine r_ic_ne 71 dX11_tie_66 (by decide) (fun c66 => ?_) (fun c66 => ?_)
                    · refine r_aload_n dX11_tie_71 rfl ?_
                      refine r_cV0v dX11_tie_72 vlX11_473 sh_347 (Nat.le_of_ble_eq_true rfl) (k_rem hP hu20 hu d) ?_
                      refine r_aload_n dX11_tie_75 rfl ?_
                      refine r_getR dX11_tie_76 flX11_106 sh_347 (by decide) rfl (pf_347_55 hP) ?_
                      refine r_iconst (v := 0) dX11_tie_79 (by decide) ?_
                      refine r_ialv dX11_tie_80 sh_378 ix2_0 (rS13_0 _ _) ?_
                      refine r_istore5 dX11_tie_81 rfl ?_
                      refine r_aload_n dX11_tie_83 rfl ?_
                      refine r_getR dX11_tie_84 flX11_109 sh_347 (by decide) rfl (pf_347_56 hP) ?_
                      refine r_iload dX11_tie_87 rfl ?_
                      refine r_iload_n dX11_tie_89 rfl ?_
                      refine r_iasv dX11_tie_90 sh_379 hin (rW3 _ _ hin _) ?_
                      refine r_aload_n dX11_tie_91 rfl ?_
                      refine r_getR dX11_tie_92 flX11_112 sh_347 (by decide) rfl (pf_347_57 hP) ?_
                      refine r_iload dX11_tie_95 rfl ?_
                      refine r_iload_n dX11_tie_97 rfl ?_
                      refine r_iasv dX11_tie_98 sh_380 hin (rW4 _ _ hin _) ?_
                      refine r_aload_n dX11_tie_99 rfl ?_
                      refine r_getR dX11_tie_100 flX11_115 sh_347 (by decide) rfl (pf_347_58 hP) ?_
                      refine r_iload dX11_tie_103 rfl ?_
                      refine r_aload_n dX11_tie_105 rfl ?_
                      refine r_getR dX11_tie_106 flX11_139 sh_347 (by decide) rfl (pf_347_66 hP) ?_
                      refine r_iconst (v := 0) dX11_tie_109 (by decide) ?_
                      refine r_ialv dX11_tie_110 sh_389 ix2_0 (rS15_0 _ _) ?_
                      refine r_iasv dX11_tie_111 sh_381 hin (rW8 _ _ hin _) ?_
                      refine r_aload_n dX11_tie_112 rfl ?_
                      refine r_getR dX11_tie_113 flX11_118 sh_347 (by decide) rfl (pf_347_59 hP) ?_
                      refine r_iload dX11_tie_116 rfl ?_
                      refine r_iload dX11_tie_118 rfl ?_
                      refine r_iasv dX11_tie_120 sh_382 hin (rW7 _ _ hin _) ?_
                      refine r_aload_n dX11_tie_121 rfl ?_
                      refine r_getR dX11_tie_122 flX11_121 sh_347 (by decide) rfl (pf_347_60 hP) ?_
                      refine r_iload dX11_tie_125 rfl ?_
                      refine r_iload_n dX11_tie_127 rfl ?_
                      refine r_iasv dX11_tie_128 sh_383 (iz12 hin) (rY5 _ _ hin _) ?_
                      refine r_aload_n dX11_tie_129 rfl ?_
                      refine r_getR dX11_tie_130 flX11_124 sh_347 (by decide) rfl (pf_347_61 hP) ?_
                      refine r_iload dX11_tie_133 rfl ?_
                      refine r_iconst (v := 0) dX11_tie_135 (by decide) ?_
                      refine r_iasv dX11_tie_136 sh_384 (iz12 hin) (rY6 _ _ hin _) ?_
                      refine r_aload_n dX11_tie_137 rfl ?_
                      refine r_getR dX11_tie_138 flX11_127 sh_347 (by decide) rfl (pf_347_62 hP) ?_
                      refine r_iload dX11_tie_141 rfl ?_
                      refine r_iconst (v := 0) dX11_tie_143 (by decide) ?_
                      refine r_iasv dX11_tie_144 sh_385 (iz12 hin) (rY9 _ _ hin _) ?_
                      refine r_aload_n dX11_tie_145 rfl ?_
                      refine r_getR dX11_tie_146 flX11_130 sh_347 (by decide) rfl (pf_347_63 hP) ?_
                      refine r_iload dX11_tie_149 rfl ?_
                      refine r_iconst (v := (-1)) dX11_tie_151 (by decide) ?_
                      refine r_iasv dX11_tie_152 sh_386 (iz12 hin) (rY10 _ _ hin _) ?_
                      refine r_aload_n dX11_tie_153 rfl ?_
                      refine r_getR dX11_tie_154 flX11_133 sh_347 (by decide) rfl (pf_347_64 hP) ?_
                      refine r_iload dX11_tie_157 rfl ?_
                      refine r_iconst (v := 0) dX11_tie_159 (by decide) ?_
                      refine r_iasv dX11_tie_160 sh_387 (iz12 hin) (rY12 _ _ hin (Or.inl rfl)) ?_
                      refine r_aload_n dX11_tie_161 rfl ?_
                      refine r_getR dX11_tie_162 flX11_106 sh_347 (by decide) rfl (pf_347_55 hP) ?_
                      refine r_iconst (v := 0) dX11_tie_165 (by decide) ?_
                      refine r_dup2 dX11_tie_166 rfl rfl ?_
                      refine r_ialv dX11_tie_167 sh_378 ix2_0 (rS13_0 _ _) ?_
                      refine r_iconst (v := 1) dX11_tie_168 (by decide) ?_
                      refine r_iadd dX11_tie_169 ?_
                      refine r_iasv dX11_tie_170 sh_378 ix2_0 (rU13_0 _ _ _) ?_
                      refine r_iload dX11_tie_171 rfl ?_
                      exact r_iret dX11_tie_173 rfl rfl (by rw [hv.2.1]) (by rw [hcl, rAdd, ← nI_1, ← hv.2.1]; rfl)
                    · refine r_iconst (v := (-1)) dX11_tie_69 (by decide) ?_
                      exact absurd c66 (by rw [hv.2.1]; exact fun z => by have := (nI_eq (a := n) (b := 12) (by have := hv.1; omega) (by decide)).mp z; have := h.2.2.2.2.2; omega)
                · refine r_cS3i dX11_tie_52 slX11_238 (Nat.le_of_ble_eq_true rfl) (k_isIn_f h52 (d + 1)) ?_
                  refine r_if_eq 69 dX11_tie_55 (by decide) (fun c55 => ?_) (fun c55 => ?_)
                  · refine r_iconst (v := (-1)) dX11_tie_69 (by decide) ?_
                    exact absurd h.2.2.2.2.1 h52
                  · exact absurd c55 (by decide)
            · refine r_cS3i dX11_tie_41 slX11_238 (Nat.le_of_ble_eq_true rfl) (k_isIn_f h41 (d + 1)) ?_
              refine r_if_eq 69 dX11_tie_44 (by decide) (fun c44 => ?_) (fun c44 => ?_)
              · refine r_iconst (v := (-1)) dX11_tie_69 (by decide) ?_
                exact absurd h.2.2.2.1 h41
              · exact absurd c44 (by decide)
      · refine r_cV1i dX11_tie_15 vlX11_456 sh_347 (Nat.le_of_ble_eq_true rfl) (k_rPer_f (b := 0) h15 (d + 1)) ?_
        refine r_if_eq 69 dX11_tie_18 (by decide) (fun c18 => ?_) (fun c18 => ?_)
        · refine r_iconst (v := (-1)) dX11_tie_69 (by decide) ?_
          exact absurd h.2.1 h15
        · exact absurd c18 (by decide)
  · refine r_cV1i dX11_tie_7 vlX11_456 sh_347 (Nat.le_of_ble_eq_true rfl) (k_rPer_f (b := 0) h7 (d + 1)) ?_
    refine r_if_eq 69 dX11_tie_10 (by decide) (fun c10 => ?_) (fun c10 => ?_)
    · refine r_iconst (v := (-1)) dX11_tie_69 (by decide) ?_
      exact absurd h.1 h7
    · exact absurd c10 (by decide)
set_option maxHeartbeats 2000000 in
theorem k_rtie_f {E : xCl} {ex : Bool} {I I0 V : Nat → Nat → Int32} {e : Int32} {J : Nat → Nat → Int64} {P : Nat → Nat → Nat} (hP : Pok P) (hI : xu I 347 2 0 = I0)  {n : Nat} (hv : Vok V n) {np : Nat} (hnp : np ≤ 6) (h12 : I0 347 12 = nI np) {a c w v : Int32} (h : ¬ rOkY I0 n a c w v) (d : Nat) : xEx E ex (d + 3) yX11_tie [.ref 347, .int a, .int c, .int w, .int v] (SH, wR (wE I e) 0 V, J, P) (some (.int (-1))) (SH, wR (wE I0 e) 0 V, J, P) := by
  refine x_enter cqX11_tie [some (.ref 347), some (.int a), some (.int c), some (.int w), some (.int v), none] rfl (by simp [lg_sl, Value.category]) ?_
  refine r_aload_n dX11_tie_0 rfl ?_
  refine r_iconst (v := 0) dX11_tie_1 (by decide) ?_
  refine r_putIv dX11_tie_2 flX11_193 ⟨_, _, _, rfl, Or.inl rfl⟩ sh_347 (by decide) rfl rfl rfl ((wR_xo _ _ _ (by decide) _ _).trans (congrArg (fun z => wR z _ _) ((wE_c _ _ _ (by decide)).trans (congrArg (fun z => wE z _) hI)))) ?_
  refine r_aload_n dX11_tie_5 rfl ?_
  refine r_iload_n dX11_tie_6 rfl ?_
  by_cases h7 : ¬ a < 0 ∧ ¬ I0 347 12 ≤ a
  · refine r_cV1i dX11_tie_7 vlX11_456 sh_347 (Nat.le_of_ble_eq_true rfl) (k_rPer_t (b := 0) h7 (d + 1)) ?_
    refine r_if_eq 69 dX11_tie_10 (by decide) (fun c10 => ?_) (fun c10 => ?_)
    · exact absurd c10 (by decide)
    · refine r_aload_n dX11_tie_13 rfl ?_
      refine r_iload_n dX11_tie_14 rfl ?_
      by_cases h15 : ¬ c < 0 ∧ ¬ I0 347 12 ≤ c
      · refine r_cV1i dX11_tie_15 vlX11_456 sh_347 (Nat.le_of_ble_eq_true rfl) (k_rPer_t (b := 0) h15 (d + 1)) ?_
        refine r_if_eq 69 dX11_tie_18 (by decide) (fun c18 => ?_) (fun c18 => ?_)
        · exact absurd c18 (by decide)
        · refine r_aload_n dX11_tie_21 rfl ?_
          refine r_getR dX11_tie_22 flX11_30 sh_347 (by decide) rfl (pf_347_23 hP) ?_
          refine r_iload_n dX11_tie_25 rfl ?_
          refine r_ialv dX11_tie_26 sh_353 (iz6 (in6p hnp h12 h7.1 h7.2)) ((wR_o _ _ _ (by decide) _).trans (wE_o _ _ (by decide) _)) ?_
          refine r_aload_n dX11_tie_27 rfl ?_
          refine r_getR dX11_tie_28 flX11_30 sh_347 (by decide) rfl (pf_347_23 hP) ?_
          refine r_iload_n dX11_tie_31 rfl ?_
          refine r_ialv dX11_tie_32 sh_353 (iz6 (in6p hnp h12 h15.1 h15.2)) ((wR_o _ _ _ (by decide) _).trans (wE_o _ _ (by decide) _)) ?_
          refine r_ic_eq 69 dX11_tie_33 (by decide) (fun c33 => ?_) (fun c33 => ?_)
          · refine r_iconst (v := (-1)) dX11_tie_69 (by decide) ?_
            exact r_iret dX11_tie_70 rfl rfl rfl rfl
          · refine r_iload_n dX11_tie_36 rfl ?_
            refine r_iconst (v := 1) dX11_tie_37 (by decide) ?_
            refine r_sipush (v := 999) dX11_tie_38 (by decide) ?_
            by_cases h41 : ¬ w < 1 ∧ ¬ 999 < w
            · refine r_cS3i dX11_tie_41 slX11_238 (Nat.le_of_ble_eq_true rfl) (k_isIn_t h41 (d + 1)) ?_
              refine r_if_eq 69 dX11_tie_44 (by decide) (fun c44 => ?_) (fun c44 => ?_)
              · exact absurd c44 (by decide)
              · refine r_iload dX11_tie_47 rfl ?_
                refine r_iconst (v := 0) dX11_tie_49 (by decide) ?_
                refine r_bipush (v := 99) dX11_tie_50 (by decide) ?_
                by_cases h52 : ¬ v < 0 ∧ ¬ 99 < v
                · refine r_cS3i dX11_tie_52 slX11_238 (Nat.le_of_ble_eq_true rfl) (k_isIn_t h52 (d + 1)) ?_
                  refine r_if_eq 69 dX11_tie_55 (by decide) (fun c55 => ?_) (fun c55 => ?_)
                  · exact absurd c55 (by decide)
                  · refine r_aload_n dX11_tie_58 rfl ?_
                    refine r_getR dX11_tie_59 flX11_106 sh_347 (by decide) rfl (pf_347_55 hP) ?_
                    refine r_iconst (v := 0) dX11_tie_62 (by decide) ?_
                    refine r_ialv dX11_tie_63 sh_378 ix2_0 (rS13_0 _ _) ?_
                    refine r_bipush (v := 12) dX11_tie_64 (by decide) ?_
                    refine r_ic_ne 71 dX11_tie_66 (by decide) (fun c66 => ?_) (fun c66 => ?_)
                    · exact absurd ⟨h7, h15, c33, h41, h52, Nat.lt_of_le_of_ne hv.1 (fun z => c66 (by rw [hv.2.1, z]; rfl))⟩ h
                    · refine r_iconst (v := (-1)) dX11_tie_69 (by decide) ?_
                      exact r_iret dX11_tie_70 rfl rfl rfl rfl
                · refine r_cS3i dX11_tie_52 slX11_238 (Nat.le_of_ble_eq_true rfl) (k_isIn_f h52 (d + 1)) ?_
                  refine r_if_eq 69 dX11_tie_55 (by decide) (fun c55 => ?_) (fun c55 => ?_)
                  · refine r_iconst (v := (-1)) dX11_tie_69 (by decide) ?_
                    exact r_iret dX11_tie_70 rfl rfl rfl rfl
                  · exact absurd c55 (by decide)
            · refine r_cS3i dX11_tie_41 slX11_238 (Nat.le_of_ble_eq_true rfl) (k_isIn_f h41 (d + 1)) ?_
              refine r_if_eq 69 dX11_tie_44 (by decide) (fun c44 => ?_) (fun c44 => ?_)
              · refine r_iconst (v := (-1)) dX11_tie_69 (by decide) ?_
                exact r_iret dX11_tie_70 rfl rfl rfl rfl
              · exact absurd c44 (by decide)
      · refine r_cV1i dX11_tie_15 vlX11_456 sh_347 (Nat.le_of_ble_eq_true rfl) (k_rPer_f (b := 0) h15 (d + 1)) ?_
        refine r_if_eq 69 dX11_tie_18 (by decide) (fun c18 => ?_) (fun c18 => ?_)
        · refine r_iconst (v := (-1)) dX11_tie_69 (by decide) ?_
          exact r_iret dX11_tie_70 rfl rfl rfl rfl
        · exact absurd c18 (by decide)
  · refine r_cV1i dX11_tie_7 vlX11_456 sh_347 (Nat.le_of_ble_eq_true rfl) (k_rPer_f (b := 0) h7 (d + 1)) ?_
    refine r_if_eq 69 dX11_tie_10 (by decide) (fun c10 => ?_) (fun c10 => ?_)
    · refine r_iconst (v := (-1)) dX11_tie_69 (by decide) ?_
      exact r_iret dX11_tie_70 rfl rfl rfl rfl
    · exact absurd c10 (by decide)
abbrev rOkX (I : Nat → Nat → Int32) (p x : Int32) : Prop := (¬ p < 0 ∧ ¬ I 347 12 ≤ p) ∧ (¬ x < 0 ∧ ¬ 99 < x)
set_option maxHeartbeats 1000000 in
theorem k_rcross_n {E : xCl} {ex : Bool} {I I0 V : Nat → Nat → Int32} {e : Int32} {J : Nat → Nat → Int64} {P : Nat → Nat → Nat} (hP : Pok P) (hI : xu I 347 2 0 = I0)  {p x : Int32} (h : ¬ rOkX I0 p x) (d : Nat) : xEx E ex (d + 2) yX11_cross [.ref 347, .int p, .int x] (SH, wR (wE I e) 0 V, J, P) (some (.int (-1))) (SH, wR (wE I0 e) 0 V, J, P) := by
  refine x_enter cqX11_cross [some (.ref 347), some (.int p), some (.int x)] rfl (by simp [lg_sl, Value.category]) ?_
  refine r_aload_n dX11_cross_0 rfl ?_
  refine r_iconst (v := 0) dX11_cross_1 (by decide) ?_
  refine r_putIv dX11_cross_2 flX11_193 ⟨_, _, _, rfl, Or.inl rfl⟩ sh_347 (by decide) rfl rfl rfl ((wR_xo _ _ _ (by decide) _ _).trans (congrArg (fun z => wR z _ _) ((wE_c _ _ _ (by decide)).trans (congrArg (fun z => wE z _) hI)))) ?_
  refine r_aload_n dX11_cross_5 rfl ?_
  refine r_iload_n dX11_cross_6 rfl ?_
  by_cases h7 : ¬ p < 0 ∧ ¬ I0 347 12 ≤ p
  · refine r_cV1i dX11_cross_7 vlX11_456 sh_347 (Nat.le_of_ble_eq_true rfl) (k_rPer_t (b := 0) h7 d) ?_
    refine r_if_eq 23 dX11_cross_10 (by decide) (fun c10 => ?_) (fun c10 => ?_)
    · exact absurd c10 (by decide)
    · refine r_iload_n dX11_cross_13 rfl ?_
      refine r_iconst (v := 0) dX11_cross_14 (by decide) ?_
      refine r_bipush (v := 99) dX11_cross_15 (by decide) ?_
      by_cases h17 : ¬ x < 0 ∧ ¬ 99 < x
      · refine r_cS3i dX11_cross_17 slX11_238 (Nat.le_of_ble_eq_true rfl) (k_isIn_t h17 d) ?_
        refine r_if_ne 25 dX11_cross_20 (by decide) (fun c20 => ?_) (fun c20 => ?_)
        · exact absurd ⟨h7, h17⟩ h
        · exact absurd c20 (by decide)
      · refine r_cS3i dX11_cross_17 slX11_238 (Nat.le_of_ble_eq_true rfl) (k_isIn_f h17 d) ?_
        refine r_if_ne 25 dX11_cross_20 (by decide) (fun c20 => ?_) (fun c20 => ?_)
        · exact absurd c20 (by decide)
        · refine r_iconst (v := (-1)) dX11_cross_23 (by decide) ?_
          exact r_iret dX11_cross_24 rfl rfl rfl rfl
  · refine r_cV1i dX11_cross_7 vlX11_456 sh_347 (Nat.le_of_ble_eq_true rfl) (k_rPer_f (b := 0) h7 d) ?_
    refine r_if_eq 23 dX11_cross_10 (by decide) (fun c10 => ?_) (fun c10 => ?_)
    · refine r_iconst (v := (-1)) dX11_cross_23 (by decide) ?_
      exact r_iret dX11_cross_24 rfl rfl rfl rfl
    · exact absurd c10 (by decide)
set_option maxHeartbeats 2000000 in
theorem k_rcross_0 {E : xCl} {ex : Bool} {I I0 V : Nat → Nat → Int32} {e : Int32} {J : Nat → Nat → Int64} {P : Nat → Nat → Nat} (hP : Pok P) (hI : xu I 347 2 0 = I0)  {n : Nat} (hv : Vok V n) (hk : Tok V n) {L : Nat → (Nat → Int64) → Int64} (hL : LwR I0 L) (h7 : L7 L) {np : Nat} (hnp : np ≤ 6) (h12 : I0 347 12 = nI np) {p x : Int32} (h : rOkX I0 p x) (hb : sBr V L n < I0 355 p.toNatClampNeg + x) (d : Nat) : ∃ e' J', xEx E ex (d + 7) yX11_cross [.ref 347, .int p, .int x] (SH, wR (wE I e) 0 V, J, P) (some (.int 0)) (SH, wR (wE I0 e') 0 V, J', P) ∧ JokR J J' := by
  refine QR.use (F := fun z => wR z 0 V) (I := I0) (x_enterq (d := d + 6) cqX11_cross [some (.ref 347), some (.int p), some (.int x)] rfl (by simp [lg_sl, Value.category]) ?_)
  refine r_aload_n dX11_cross_0 rfl ?_
  refine r_iconst (v := 0) dX11_cross_1 (by decide) ?_
  refine r_putIv dX11_cross_2 flX11_193 ⟨_, _, _, rfl, Or.inl rfl⟩ sh_347 (by decide) rfl rfl rfl ((wR_xo _ _ _ (by decide) _ _).trans (congrArg (fun z => wR z _ _) ((wE_c _ _ _ (by decide)).trans (congrArg (fun z => wE z _) hI)))) ?_
  refine r_aload_n dX11_cross_5 rfl ?_
  refine r_iload_n dX11_cross_6 rfl ?_
  by_cases hp7 : ¬ p < 0 ∧ ¬ I0 347 12 ≤ p
  · refine r_cV1i dX11_cross_7 vlX11_456 sh_347 (Nat.le_of_ble_eq_true rfl) (k_rPer_t (b := 0) hp7 (d + 5)) ?_
    refine r_if_eq 23 dX11_cross_10 (by decide) (fun c10 => ?_) (fun c10 => ?_)
    · exact absurd c10 (by decide)
    · refine r_iload_n dX11_cross_13 rfl ?_
      refine r_iconst (v := 0) dX11_cross_14 (by decide) ?_
      refine r_bipush (v := 99) dX11_cross_15 (by decide) ?_
      by_cases h17 : ¬ x < 0 ∧ ¬ 99 < x
      · refine r_cS3i dX11_cross_17 slX11_238 (Nat.le_of_ble_eq_true rfl) (k_isIn_t h17 (d + 5)) ?_
        refine r_if_ne 25 dX11_cross_20 (by decide) (fun c20 => ?_) (fun c20 => ?_)
        · refine r_aload_n dX11_cross_25 rfl ?_
          refine r_getR dX11_cross_26 flX11_36 sh_347 (by decide) rfl (pf_347_25 hP) ?_
          refine r_iload_n dX11_cross_29 rfl ?_
          refine r_ialv dX11_cross_30 sh_355 (iz6 (in6p hnp h12 hp7.1 hp7.2)) ((wR_o _ _ _ (by decide) _).trans (wE_o _ _ (by decide) _)) ?_
          refine r_iload_n dX11_cross_31 rfl ?_
          refine r_iadd dX11_cross_32 ?_
          refine r_aload_n dX11_cross_33 rfl ?_
          refine r_iconst (v := 0) dX11_cross_34 (by decide) ?_
          obtain ⟨e9, J9, hx9, hj9⟩ := k_rbridge (E := E) (ex := ex) (I := I0) (V := V) (e := e) (J := J) hP (b := 0) (by decide) hv hk hL h7 d
          refine r_cV1i dX11_cross_35 vlX11_443 sh_347 (Nat.le_of_ble_eq_true rfl) hx9 ?_
          refine r_ic_le 43 dX11_cross_38 (by decide) (fun c38 => ?_) (fun c38 => ?_)
          · exact absurd hb (Int32.not_lt.mpr c38)
          · refine r_iconst (v := 0) dX11_cross_41 (by decide) ?_
            exact r_iretq dX11_cross_42 rfl rfl (QR.mk (F := fun z => wR z 0 V) hj9)
        · exact absurd c20 (by decide)
      · refine r_cS3i dX11_cross_17 slX11_238 (Nat.le_of_ble_eq_true rfl) (k_isIn_f h17 (d + 5)) ?_
        refine r_if_ne 25 dX11_cross_20 (by decide) (fun c20 => ?_) (fun c20 => ?_)
        · exact absurd c20 (by decide)
        · refine r_iconst (v := (-1)) dX11_cross_23 (by decide) ?_
          exact absurd h.2 h17
  · refine r_cV1i dX11_cross_7 vlX11_456 sh_347 (Nat.le_of_ble_eq_true rfl) (k_rPer_f (b := 0) hp7 (d + 5)) ?_
    refine r_if_eq 23 dX11_cross_10 (by decide) (fun c10 => ?_) (fun c10 => ?_)
    · refine r_iconst (v := (-1)) dX11_cross_23 (by decide) ?_
      exact absurd h.1 hp7
    · exact absurd c10 (by decide)
set_option maxHeartbeats 2000000 in
theorem k_rcross_1 {E : xCl} {ex : Bool} {I I0 V : Nat → Nat → Int32} {e : Int32} {J : Nat → Nat → Int64} {P : Nat → Nat → Nat} (hP : Pok P) (hI : xu I 347 2 0 = I0)  {n : Nat} (hv : Vok V n) (hk : Tok V n) {L : Nat → (Nat → Int64) → Int64} (hL : LwR I0 L) (h7 : L7 L) {np : Nat} (hnp : np ≤ 6) (h12 : I0 347 12 = nI np) {p x : Int32} (h : rOkX I0 p x) {u : Nat} (hu20 : u ≤ 20) (hu : I0 347 83 = nI u) (hb : ¬ sBr V L n < I0 355 p.toNatClampNeg + x) (d : Nat) : ∃ e' J', xEx E ex (d + 7) yX11_cross [.ref 347, .int p, .int x] (SH, wR (wE I e) 0 V, J, P) (some (.int 1)) (SH, wR (wE (rRem I0 V u) e') 0 (xu V 2 p.toNatClampNeg (1 - V 2 p.toNatClampNeg)), J', P) ∧ JokR J J' := by
  refine QR.use (F := fun z => wR z 0 (xu V 2 p.toNatClampNeg (1 - V 2 p.toNatClampNeg))) (I := (rRem I0 V u)) (x_enterq (d := d + 6) cqX11_cross [some (.ref 347), some (.int p), some (.int x)] rfl (by simp [lg_sl, Value.category]) ?_)
  refine r_aload_n dX11_cross_0 rfl ?_
  refine r_iconst (v := 0) dX11_cross_1 (by decide) ?_
  refine r_putIv dX11_cross_2 flX11_193 ⟨_, _, _, rfl, Or.inl rfl⟩ sh_347 (by decide) rfl rfl rfl ((wR_xo _ _ _ (by decide) _ _).trans (congrArg (fun z => wR z _ _) ((wE_c _ _ _ (by decide)).trans (congrArg (fun z => wE z _) hI)))) ?_
  refine r_aload_n dX11_cross_5 rfl ?_
  refine r_iload_n dX11_cross_6 rfl ?_
  by_cases hp7 : ¬ p < 0 ∧ ¬ I0 347 12 ≤ p
  · refine r_cV1i dX11_cross_7 vlX11_456 sh_347 (Nat.le_of_ble_eq_true rfl) (k_rPer_t (b := 0) hp7 (d + 5)) ?_
    refine r_if_eq 23 dX11_cross_10 (by decide) (fun c10 => ?_) (fun c10 => ?_)
    · exact absurd c10 (by decide)
    · refine r_iload_n dX11_cross_13 rfl ?_
      refine r_iconst (v := 0) dX11_cross_14 (by decide) ?_
      refine r_bipush (v := 99) dX11_cross_15 (by decide) ?_
      by_cases h17 : ¬ x < 0 ∧ ¬ 99 < x
      · refine r_cS3i dX11_cross_17 slX11_238 (Nat.le_of_ble_eq_true rfl) (k_isIn_t h17 (d + 5)) ?_
        refine r_if_ne 25 dX11_cross_20 (by decide) (fun c20 => ?_) (fun c20 => ?_)
        · refine r_aload_n dX11_cross_25 rfl ?_
          refine r_getR dX11_cross_26 flX11_36 sh_347 (by decide) rfl (pf_347_25 hP) ?_
          refine r_iload_n dX11_cross_29 rfl ?_
          refine r_ialv dX11_cross_30 sh_355 (iz6 (in6p hnp h12 hp7.1 hp7.2)) ((wR_o _ _ _ (by decide) _).trans (wE_o _ _ (by decide) _)) ?_
          refine r_iload_n dX11_cross_31 rfl ?_
          refine r_iadd dX11_cross_32 ?_
          refine r_aload_n dX11_cross_33 rfl ?_
          refine r_iconst (v := 0) dX11_cross_34 (by decide) ?_
          obtain ⟨e9, J9, hx9, hj9⟩ := k_rbridge (E := E) (ex := ex) (I := I0) (V := V) (e := e) (J := J) hP (b := 0) (by decide) hv hk hL h7 d
          refine r_cV1i dX11_cross_35 vlX11_443 sh_347 (Nat.le_of_ble_eq_true rfl) hx9 ?_
          refine r_ic_le 43 dX11_cross_38 (by decide) (fun c38 => ?_) (fun c38 => ?_)
          · refine r_aload_n dX11_cross_43 rfl ?_
            refine r_cV0v dX11_cross_44 vlX11_473 sh_347 (Nat.le_of_ble_eq_true rfl) (k_rem hP hu20 hu (d + 4)) ?_
            refine r_aload_n dX11_cross_47 rfl ?_
            refine r_getR dX11_cross_48 flX11_103 sh_347 (by decide) rfl (pf_347_54 hP) ?_
            refine r_iload_n dX11_cross_51 rfl ?_
            refine r_iconst (v := 1) dX11_cross_52 (by decide) ?_
            refine r_aload_n dX11_cross_53 rfl ?_
            refine r_getR dX11_cross_54 flX11_103 sh_347 (by decide) rfl (pf_347_54 hP) ?_
            refine r_iload_n dX11_cross_57 rfl ?_
            refine r_ialv dX11_cross_58 sh_377 (iz6 (in6p hnp h12 hp7.1 hp7.2)) (rZ2 _ _ (in6p hnp h12 hp7.1 hp7.2)) ?_
            refine r_isub dX11_cross_59 ?_
            refine r_iasv dX11_cross_60 sh_377 (iz6 (in6p hnp h12 hp7.1 hp7.2)) (rY2 _ _ (in6p hnp h12 hp7.1 hp7.2) _) ?_
            refine r_iconst (v := 1) dX11_cross_61 (by decide) ?_
            exact r_iretq dX11_cross_62 rfl rfl (QR.mk (F := fun z => wR z 0 (xu V 2 p.toNatClampNeg (1 - V 2 p.toNatClampNeg))) hj9)
          · exact absurd (Int32.not_le.mp c38) hb
        · exact absurd c20 (by decide)
      · refine r_cS3i dX11_cross_17 slX11_238 (Nat.le_of_ble_eq_true rfl) (k_isIn_f h17 (d + 5)) ?_
        refine r_if_ne 25 dX11_cross_20 (by decide) (fun c20 => ?_) (fun c20 => ?_)
        · exact absurd c20 (by decide)
        · refine r_iconst (v := (-1)) dX11_cross_23 (by decide) ?_
          exact absurd h.2 h17
  · refine r_cV1i dX11_cross_7 vlX11_456 sh_347 (Nat.le_of_ble_eq_true rfl) (k_rPer_f (b := 0) hp7 (d + 5)) ?_
    refine r_if_eq 23 dX11_cross_10 (by decide) (fun c10 => ?_) (fun c10 => ?_)
    · refine r_iconst (v := (-1)) dX11_cross_23 (by decide) ?_
      exact absurd h.1 hp7
    · exact absurd c10 (by decide)
set_option maxHeartbeats 1000000 in
theorem k_rundo_0 {E : xCl} {ex : Bool} {I I0 V : Nat → Nat → Int32} {e : Int32} {J : Nat → Nat → Int64} {P : Nat → Nat → Nat} (hP : Pok P) (hI : xu I 347 2 0 = I0) (h : I0 347 83 = 0) (d : Nat) : xEx E ex (d + 1) yX11_undo [.ref 347] (SH, wR (wE I e) 0 V, J, P) (some (.int (-1))) (SH, wR (wE I0 e) 0 V, J, P) := by
  refine x_enter cqX11_undo [some (.ref 347)] rfl (by simp [lg_sl, Value.category]) ?_
  refine r_aload_n dX11_undo_0 rfl ?_
  refine r_iconst (v := 0) dX11_undo_1 (by decide) ?_
  refine r_putIv dX11_undo_2 flX11_193 ⟨_, _, _, rfl, Or.inl rfl⟩ sh_347 (by decide) rfl rfl rfl ((wR_xo _ _ _ (by decide) _ _).trans (congrArg (fun z => wR z _ _) ((wE_c _ _ _ (by decide)).trans (congrArg (fun z => wE z _) hI)))) ?_
  refine r_aload_n dX11_undo_5 rfl ?_
  refine r_getIv dX11_undo_6 flX11_403 sh_347 (by decide) rfl ((wR_o _ _ _ (by decide) _).trans (wE_f _ _ (by decide))) ?_
  refine r_if_ne 14 dX11_undo_9 (by decide) (fun c9 => ?_) (fun c9 => ?_)
  · exact absurd h c9
  · refine r_iconst (v := (-1)) dX11_undo_12 (by decide) ?_
    exact r_iret dX11_undo_13 rfl rfl rfl rfl
set_option maxHeartbeats 1000000 in
theorem k_rundo {E : xCl} {ex : Bool} {I I0 V : Nat → Nat → Int32} {e : Int32} {J : Nat → Nat → Int64} {P : Nat → Nat → Nat} (hP : Pok P) (hI : xu I 347 2 0 = I0) {u : Nat} (hu20 : u < 20) (hu : I0 347 83 = nI (u + 1)) (d : Nat) : xEx E ex (d + 2) yX11_undo [.ref 347] (SH, wR (wE I e) 0 V, J, P) (some (.int (nI u))) (SH, wR (wE (xu I0 347 83 (nI u)) e) 0 (tTake V (I0 400) (37 * u)), J, P) := by
  refine x_enter cqX11_undo [some (.ref 347)] rfl (by simp [lg_sl, Value.category]) ?_
  refine r_aload_n dX11_undo_0 rfl ?_
  refine r_iconst (v := 0) dX11_undo_1 (by decide) ?_
  refine r_putIv dX11_undo_2 flX11_193 ⟨_, _, _, rfl, Or.inl rfl⟩ sh_347 (by decide) rfl rfl rfl ((wR_xo _ _ _ (by decide) _ _).trans (congrArg (fun z => wR z _ _) ((wE_c _ _ _ (by decide)).trans (congrArg (fun z => wE z _) hI)))) ?_
  refine r_aload_n dX11_undo_5 rfl ?_
  refine r_getIv dX11_undo_6 flX11_403 sh_347 (by decide) rfl ((wR_o _ _ _ (by decide) _).trans ((wE_f _ _ (by decide)).trans hu)) ?_
  refine r_if_ne 14 dX11_undo_9 (by decide) (fun c9 => ?_) (fun c9 => ?_)
  · refine r_aload_n dX11_undo_14 rfl ?_
    refine r_dup dX11_undo_15 rfl ?_
    refine r_getIv dX11_undo_16 flX11_403 sh_347 (by decide) rfl ((wR_o _ _ _ (by decide) _).trans ((wE_f _ _ (by decide)).trans hu)) ?_
    refine r_iconst (v := 1) dX11_undo_19 (by decide) ?_
    refine r_isub dX11_undo_20 ?_
    refine r_putIv dX11_undo_21 flX11_403 ⟨_, _, _, rfl, Or.inl rfl⟩ sh_347 (by decide) rfl rfl rfl (show _ = wR (wE (xu I0 347 83 (nI u)) e) 0 V from (wR_xo _ _ _ (by decide) _ _).trans (congrArg (fun z => wR z _ _) ((wE_c _ _ _ (by decide)).trans (by rw [nI_m1])))) ?_
    refine r_aload_n dX11_undo_24 rfl ?_
    refine r_aload_n dX11_undo_25 rfl ?_
    refine r_getR dX11_undo_26 flX11_175 sh_347 (by decide) rfl (pf_347_84 hP) ?_
    refine r_bipush (v := 37) dX11_undo_29 (by decide) ?_
    refine r_aload_n dX11_undo_31 rfl ?_
    refine r_getIv dX11_undo_32 flX11_403 sh_347 (by decide) rfl ((wR_o _ _ _ (by decide) _).trans ((wE_f _ _ (by decide)).trans (xu_s _ _ _ _))) ?_
    refine r_imul dX11_undo_35 ?_
    refine r_cV2v dX11_undo_36 vlX11_551 sh_347 (Nat.le_of_ble_eq_true rfl) (by have z := k_take (E := E) (ex := ex) (I := xu I0 347 83 (nI u)) (V := V) (e := e) (J := J) hP (row := 400) (i := 37 * u) sh_400 (by decide) (by decide) (by omega) (by decide) d; rw [← pk_mul, show xu I0 347 83 (nI u) 400 = I0 400 from funext (fun k => xu_f _ _ (by decide))] at z; exact z) ?_
    refine r_aload_n dX11_undo_39 rfl ?_
    refine r_getIv dX11_undo_40 flX11_403 sh_347 (by decide) rfl ((wR_o _ _ _ (by decide) _).trans ((wE_f _ _ (by decide)).trans (xu_s _ _ _ _))) ?_
    exact r_iret dX11_undo_43 rfl rfl rfl rfl
  · exact absurd c9 (nI_ne0 (by omega) (by omega))
def rPl (I : Nat → Nat → Int32) : Nat → Nat → Int32 := xu (xu (xu I 347 69 0) 347 70 0) 347 71 0
theorem rPl_o {I : Nat → Nat → Int32} {a : Nat} (h : a ≠ 347) (k : Nat) : rPl I a k = I a k := by rw [rPl, xu_f _ _ h, xu_f _ _ h, xu_f _ _ h]
theorem rPl_k {I : Nat → Nat → Int32} {k : Nat} (h1 : k ≠ 69) (h2 : k ≠ 70) (h3 : k ≠ 71) : rPl I 347 k = I 347 k := by simp [rPl, xu, h1, h2, h3]
theorem rPl_T (I : Nat → Nat → Int32) : rT (rPl I) = rT I := by
  funext q k
  unfold rT
  rw [rPl_o (by decide), rPl_o (by decide), rPl_o (by decide), rPl_o (by decide)]
theorem LwR.pl {I : Nat → Nat → Int32} {L : Nat → (Nat → Int64) → Int64} (h : LwR I L) : LwR (rPl I) L := h.of (fun a h1 h2 => funext (fun k => rPl_o (by omega) k))
theorem rPl_69 (I : Nat → Nat → Int32) : rPl I 347 69 = 0 := by simp [rPl, xu]
theorem rPl_70 (I : Nat → Nat → Int32) : rPl I 347 70 = 0 := by simp [rPl, xu]
theorem rPl_71 (I : Nat → Nat → Int32) : rPl I 347 71 = 0 := by simp [rPl, xu]
set_option maxHeartbeats 1000000 in
theorem k_plainTried {E : xCl} {ex : Bool} {I V : Nat → Nat → Int32} {e : Int32} {J : Nat → Nat → Int64} {P : Nat → Nat → Nat} {b : Nat} (d : Nat) : xEx E ex (d + 1) yX11_plainTried [.ref 347] (SH, wR (wE I e) b V, J, P) none (SH, wR (wE (rPl I) e) b V, J, P) := by
  refine x_enter cqX11_plainTried [some (.ref 347)] rfl (by simp [lg_sl, Value.category]) ?_
  refine r_aload_n dX11_plainTried_0 rfl ?_
  refine r_iconst (v := 0) dX11_plainTried_1 (by decide) ?_
  refine r_putIv dX11_plainTried_2 flX11_409 ⟨_, _, _, rfl, Or.inl rfl⟩ sh_347 (by decide) rfl rfl rfl ((wR_xo _ _ _ (by decide) _ _).trans (congrArg (fun z => wR z _ _) (wE_c _ _ _ (by decide)))) ?_
  refine r_aload_n dX11_plainTried_5 rfl ?_
  refine r_iconst (v := 0) dX11_plainTried_6 (by decide) ?_
  refine r_putIv dX11_plainTried_7 flX11_412 ⟨_, _, _, rfl, Or.inl rfl⟩ sh_347 (by decide) rfl rfl rfl ((wR_xo _ _ _ (by decide) _ _).trans (congrArg (fun z => wR z _ _) (wE_c _ _ _ (by decide)))) ?_
  refine r_aload_n dX11_plainTried_10 rfl ?_
  refine r_iconst (v := 0) dX11_plainTried_11 (by decide) ?_
  refine r_putIv dX11_plainTried_12 flX11_415 ⟨_, _, _, rfl, Or.inl rfl⟩ sh_347 (by decide) rfl rfl rfl ((wR_xo _ _ _ (by decide) _ _).trans (congrArg (fun z => wR z _ _) (wE_c _ _ _ (by decide)))) ?_
  exact r_vret dX11_plainTried_15 rfl rfl rfl
set_option maxHeartbeats 1000000 in
theorem k_ryears_n {E : xCl} {ex : Bool} {I I0 V : Nat → Nat → Int32} {e : Int32} {J : Nat → Nat → Int64} {P : Nat → Nat → Nat} (hP : Pok P) (hI : xu I 347 2 0 = I0) {x : Int32} (h : ¬ okN V x) (d : Nat) : xEx E ex (d + 2) yX11_years [.ref 347, .int x] (SH, wR (wE I e) 0 V, J, P) (some (.int (-1))) (SH, wR (wE I0 e) 0 V, J, P) := by
  refine x_enter cqX11_years [some (.ref 347), some (.int x), none] rfl (by simp [lg_sl, Value.category]) ?_
  refine r_aload_n dX11_years_0 rfl ?_
  refine r_iconst (v := 0) dX11_years_1 (by decide) ?_
  refine r_putIv dX11_years_2 flX11_193 ⟨_, _, _, rfl, Or.inl rfl⟩ sh_347 (by decide) rfl rfl rfl ((wR_xo _ _ _ (by decide) _ _).trans (congrArg (fun z => wR z _ _) ((wE_c _ _ _ (by decide)).trans (congrArg (fun z => wE z _) hI)))) ?_
  refine r_iload_n dX11_years_5 rfl ?_
  refine r_iconst (v := 0) dX11_years_6 (by decide) ?_
  refine r_bipush (v := 99) dX11_years_7 (by decide) ?_
  by_cases h9 : ¬ x < 0 ∧ ¬ 99 < x
  · refine r_cS3i dX11_years_9 slX11_238 (Nat.le_of_ble_eq_true rfl) (k_isIn_t h9 d) ?_
    refine r_if_eq 29 dX11_years_12 (by decide) (fun c12 => ?_) (fun c12 => ?_)
    · exact absurd c12 (by decide)
    · refine r_aload_n dX11_years_15 rfl ?_
      refine r_getR dX11_years_16 flX11_139 sh_347 (by decide) rfl (pf_347_66 hP) ?_
      refine r_iconst (v := 0) dX11_years_19 (by decide) ?_
      refine r_ialv dX11_years_20 sh_389 ix2_0 (rS15_0 _ _) ?_
      refine r_iload_n dX11_years_21 rfl ?_
      refine r_iadd dX11_years_22 ?_
      refine r_sipush (v := 999) dX11_years_23 (by decide) ?_
      refine r_ic_le 31 dX11_years_26 (by decide) (fun c26 => ?_) (fun c26 => ?_)
      · exact absurd ⟨h9.1, h9.2, c26⟩ h
      · refine r_iconst (v := (-1)) dX11_years_29 (by decide) ?_
        exact r_iret dX11_years_30 rfl rfl rfl rfl
  · refine r_cS3i dX11_years_9 slX11_238 (Nat.le_of_ble_eq_true rfl) (k_isIn_f h9 d) ?_
    refine r_if_eq 29 dX11_years_12 (by decide) (fun c12 => ?_) (fun c12 => ?_)
    · refine r_iconst (v := (-1)) dX11_years_29 (by decide) ?_
      exact r_iret dX11_years_30 rfl rfl rfl rfl
    · exact absurd c12 (by decide)
theorem Tok.yr {V : Nat → Nat → Int32} {n : Nat} (h : Tok V n) (L : Nat → (Nat → Int64) → Int64) (T : Nat → Nat → Int32) (m : Nat) : ∀ j, Tok (sYr V L n T m j) n
  | 0 => h
  | j + 1 => (Tok.yr h L T m j).go L T m (-1)
set_option maxHeartbeats 2000000 in
theorem l_ryears {E : xCl} {ex : Bool} {I V : Nat → Nat → Int32} {J : Nat → Nat → Int64} {P : Nat → Nat → Nat} (hP : Pok P) {n : Nat} (hv : Vok V n) (hk : Tok V n) {L : Nat → (Nat → Int64) → Int64} (hL : LwR I L) (h7 : L7 L) {m : Nat} (hm : m ≤ 8) (hc : I 347 14 = nI m) (hg : ∀ k, vp_in (I 363 k) 6) {k : Nat} (hk99 : k ≤ 99) (d : Nat) : ∀ j, j ≤ k → ∀ (e1 : Int32) (J1 : Nat → Nat → Int64), JokR J J1 → xR (xEx E ex (d + 8)) ex none yX11_years cX11_years (some .int) 37 [some (.ref 347), some (.int (nI k)), some (.int (nI j))] [] (SH, wR (wE (rPl I) e1) 0 (sYr V L n (rT I) m j), J1, P) (QR (fun z => wR z 0 (sYr V L n (rT I) m k)) (if k = 0 then rPl I else xu (rPl I) 347 83 0) J P (some (.int (sYr V L n (rT I) m k 15 0)))) := by
  refine r_for (fun j => ∀ (e1 : Int32) (J1 : Nat → Nat → Int64), JokR J J1 → xR (xEx E ex (d + 8)) ex none yX11_years cX11_years (some .int) 37 [some (.ref 347), some (.int (nI k)), some (.int (nI j))] [] (SH, wR (wE (rPl I) e1) 0 (sYr V L n (rT I) m j), J1, P) (QR (fun z => wR z 0 (sYr V L n (rT I) m k)) (if k = 0 then rPl I else xu (rPl I) 347 83 0) J P (some (.int (sYr V L n (rT I) m k 15 0))))) _ ?_ ?_
  · intro j hj ih e1 J1 hJ
    refine r_iload_n dX11_years_37 rfl ?_
    refine r_iload_n dX11_years_38 rfl ?_
    refine r_ic_ge 53 dX11_years_39 (by decide) (fun c39 => ?_) (fun c39 => ?_)
    · exact absurd c39 (nI_ge hj (by omega))
    · refine r_aload_n dX11_years_42 rfl ?_
      refine r_iconst (v := 0) dX11_years_43 (by decide) ?_
      obtain ⟨e9, J9, hx9, hj9⟩ := k_goOn (E := E) (ex := ex) (I := rPl I) (V := (sYr V L n (rT I) m j)) (e := e1) (J := J1) hP (b := 0) (by decide) (hv.yr L (rT I) m j) (hk.yr L (rT I) m j) hL.pl h7 hm ((rPl_k (by decide) (by decide) (by decide)).trans hc) (fun k => by rw [rPl_o (by decide)]; exact hg k) (lo := -1) ⟨fun _ => by decide, fun _ => rPl_69 I⟩ ⟨fun _ => by decide, fun _ => rPl_71 I⟩ ⟨fun _ => by decide, fun _ => rPl_70 I⟩ d
      rw [rPl_T] at hx9
      refine r_cV1v dX11_years_44 vlX11_479 sh_347 (Nat.le_of_ble_eq_true rfl) hx9 ?_
      refine r_iinc2 (v := 1) dX11_years_47 (by decide) rfl ?_
      refine r_goto 37 dX11_years_50 (by decide) ?_
      rw [nI_1]; exact ih _ _ (hJ.tr hj9)
  · intro e1 J1 hJ
    refine r_iload_n dX11_years_37 rfl ?_
    refine r_iload_n dX11_years_38 rfl ?_
    refine r_ic_ge 53 dX11_years_39 (by decide) (fun c39 => ?_) (fun c39 => ?_)
    · refine r_aload_n dX11_years_53 rfl ?_
      refine r_iload_n dX11_years_54 rfl ?_
      refine r_if_le 62 dX11_years_55 (by decide) (fun c55 => ?_) (fun c55 => ?_)
      · refine r_aload_n dX11_years_62 rfl ?_
        refine r_getIv dX11_years_63 flX11_403 sh_347 (by decide) rfl ((wR_o _ _ _ (by decide) _).trans (wE_f _ _ (by decide))) ?_
        refine r_putIv dX11_years_66 flX11_403 ⟨_, _, _, rfl, Or.inl rfl⟩ sh_347 (by decide) rfl rfl rfl (show _ = wR (wE (rPl I) e1) 0 (sYr V L n (rT I) m k) from (wR_xo _ _ _ (by decide) _ _).trans (congrArg (fun z => wR z _ _) ((wE_c _ _ _ (by decide)).trans (congrArg (fun z => wE z _) (xu_sf _ _ _))))) ?_
        refine r_aload_n dX11_years_69 rfl ?_
        refine r_getR dX11_years_70 flX11_139 sh_347 (by decide) rfl (pf_347_66 hP) ?_
        refine r_iconst (v := 0) dX11_years_73 (by decide) ?_
        refine r_ialv dX11_years_74 sh_389 ix2_0 (rS15_0 _ _) ?_
        exact r_iretq dX11_years_75 rfl rfl (by have h0 : k = 0 := Classical.byContradiction (fun z => absurd c55 (nI_nle (by omega) (by omega))); rw [if_pos h0]; exact QR.mk (F := (fun z => wR z 0 (sYr V L n (rT I) m k))) hJ)
      · refine r_iconst (v := 0) dX11_years_58 (by decide) ?_
        refine r_goto 66 dX11_years_59 (by decide) ?_
        refine r_putIv dX11_years_66 flX11_403 ⟨_, _, _, rfl, Or.inl rfl⟩ sh_347 (by decide) rfl rfl rfl ((wR_xo _ _ _ (by decide) _ _).trans (congrArg (fun z => wR z _ _) (wE_c _ _ _ (by decide)))) ?_
        refine r_aload_n dX11_years_69 rfl ?_
        refine r_getR dX11_years_70 flX11_139 sh_347 (by decide) rfl (pf_347_66 hP) ?_
        refine r_iconst (v := 0) dX11_years_73 (by decide) ?_
        refine r_ialv dX11_years_74 sh_389 ix2_0 (rS15_0 _ _) ?_
        exact r_iretq dX11_years_75 rfl rfl (by have h0 : ¬ k = 0 := fun z => c55 (by rw [z]; decide); rw [if_neg h0]; exact QR.mk (F := (fun z => wR z 0 (sYr V L n (rT I) m k))) hJ)
    · exact absurd (nI_le (Nat.le_refl _) (by omega)) c39
set_option maxHeartbeats 2000000 in
theorem k_ryears {E : xCl} {ex : Bool} {I I0 V : Nat → Nat → Int32} {e : Int32} {J : Nat → Nat → Int64} {P : Nat → Nat → Nat} (hP : Pok P) (hI : xu I 347 2 0 = I0)  {n : Nat} (hv : Vok V n) (hk : Tok V n) {L : Nat → (Nat → Int64) → Int64} (hL : LwR I0 L) (h7 : L7 L) {m : Nat} (hm : m ≤ 8) (hc : I0 347 14 = nI m) (hg : ∀ k, vp_in (I0 363 k) 6) {k : Nat} (hk99 : k ≤ 99) (hok : okN V (nI k)) (d : Nat) : ∃ e' J', xEx E ex (d + 9) yX11_years [.ref 347, .int (nI k)] (SH, wR (wE I e) 0 V, J, P) (some (.int (sYr V L n (rT I0) m k 15 0))) (SH, wR (wE (if k = 0 then rPl I0 else xu (rPl I0) 347 83 0) e') 0 (sYr V L n (rT I0) m k), J', P) ∧ JokR J J' := by
  refine QR.use (F := fun z => wR z 0 (sYr V L n (rT I0) m k)) (I := (if k = 0 then rPl I0 else xu (rPl I0) 347 83 0)) (x_enterq (d := d + 8) cqX11_years [some (.ref 347), some (.int (nI k)), none] rfl (by simp [lg_sl, Value.category]) ?_)
  refine r_aload_n dX11_years_0 rfl ?_
  refine r_iconst (v := 0) dX11_years_1 (by decide) ?_
  refine r_putIv dX11_years_2 flX11_193 ⟨_, _, _, rfl, Or.inl rfl⟩ sh_347 (by decide) rfl rfl rfl ((wR_xo _ _ _ (by decide) _ _).trans (congrArg (fun z => wR z _ _) ((wE_c _ _ _ (by decide)).trans (congrArg (fun z => wE z _) hI)))) ?_
  refine r_iload_n dX11_years_5 rfl ?_
  refine r_iconst (v := 0) dX11_years_6 (by decide) ?_
  refine r_bipush (v := 99) dX11_years_7 (by decide) ?_
  refine r_cS3i dX11_years_9 slX11_238 (Nat.le_of_ble_eq_true rfl) (k_isIn_t ⟨hok.1, hok.2.1⟩ (d + 7)) ?_
  refine r_if_eq 29 dX11_years_12 (by decide) (fun c12 => ?_) (fun c12 => ?_)
  · exact absurd c12 (by decide)
  · refine r_aload_n dX11_years_15 rfl ?_
    refine r_getR dX11_years_16 flX11_139 sh_347 (by decide) rfl (pf_347_66 hP) ?_
    refine r_iconst (v := 0) dX11_years_19 (by decide) ?_
    refine r_ialv dX11_years_20 sh_389 ix2_0 (rS15_0 _ _) ?_
    refine r_iload_n dX11_years_21 rfl ?_
    refine r_iadd dX11_years_22 ?_
    refine r_sipush (v := 999) dX11_years_23 (by decide) ?_
    refine r_ic_le 31 dX11_years_26 (by decide) (fun c26 => ?_) (fun c26 => ?_)
    · refine r_aload_n dX11_years_31 rfl ?_
      refine r_cV0v dX11_years_32 vlX11_397 sh_347 (Nat.le_of_ble_eq_true rfl) (k_plainTried (b := 0) (d + 7)) ?_
      refine r_iconst (v := 0) dX11_years_35 (by decide) ?_
      refine r_istore_n2 dX11_years_36 rfl ?_
      exact l_ryears hP hv hk hL h7 hm hc hg hk99 d 0 (Nat.zero_le k) e J (JokR.rf J)
    · exact absurd hok.2.2 c26
