/-- money moves: what strand k owes goes from the one to the other -/
def sMv (V : Nat → Nat → Int32) (a c : Nat) (w : Int32) : Nat → Nat → Int32 := xu (xu V 1 a (V 1 a - w)) 1 c (xu V 1 a (V 1 a - w) 1 c + w)
def sPay (V : Nat → Nat → Int32) (k : Nat) : Nat → Nat → Int32 := xu (sMv V (V 3 k).toNatClampNeg (V 4 k).toNatClampNeg (V 5 k)) 9 k 1
def sMvB (V : Nat → Nat → Int32) (a c : Nat) (w : Int32) : Nat → Nat → Int32 := xu (xu V 1 a (V 1 a + w)) 1 c (xu V 1 a (V 1 a + w) 1 c - w)
def sBack (V : Nat → Nat → Int32) (k : Nat) : Nat → Nat → Int32 := xu (sMvB V (V 3 k).toNatClampNeg (V 4 k).toNatClampNeg (V 5 k)) 9 k 0
set_option maxHeartbeats 1000000 in
theorem k_payOut {E : xCl} {ex : Bool} {I V : Nat → Nat → Int32} {J : Nat → Nat → Int64} {P : Nat → Nat → Nat} (hP : Pok P) {b : Nat} (hb : b ∈ BR) {n : Nat} (hv : Vok V n) {i : Int32} (hi : vp_in i 12) (d : Nat) : xEx E ex (d + 1) yX0_payOut [.ref b, .int i] (SH, wB I b V, J, P) none (SH, wB I b (sPay V i.toNatClampNeg), J, P) := by
  refine x_enter cqX0_payOut [some (.ref b), some (.int i)] rfl (by simp [lg_sl, Value.category]) ?_
  refine r_aload_n dX0_payOut_0 rfl ?_
  refine r_getR dX0_payOut_1 flX0_9 (br_s _ hb) (by decide) rfl (br_p1 hP _ hb) ?_
  refine r_aload_n dX0_payOut_4 rfl ?_
  refine r_getR dX0_payOut_5 flX0_18 (br_s _ hb) (by decide) rfl (br_p3 hP _ hb) ?_
  refine r_iload_n dX0_payOut_8 rfl ?_
  refine r_ialv dX0_payOut_9 (br_a3 _ hb) hi (wB_a _ _ _ (by decide) (by decide) (vlt hi)) ?_
  refine r_dup2 dX0_payOut_10 rfl rfl ?_
  refine r_ialv dX0_payOut_11 (br_a1 _ hb) (hv.2.2.1 _) (wB_a _ _ _ (by decide) (by decide) (vlt (hv.2.2.1 _))) ?_
  refine r_aload_n dX0_payOut_12 rfl ?_
  refine r_getR dX0_payOut_13 flX0_24 (br_s _ hb) (by decide) rfl (br_p5 hP _ hb) ?_
  refine r_iload_n dX0_payOut_16 rfl ?_
  refine r_ialv dX0_payOut_17 (br_a5 _ hb) hi (wB_a _ _ _ (by decide) (by decide) (vlt hi)) ?_
  refine r_isub dX0_payOut_18 ?_
  refine r_iasv dX0_payOut_19 (br_a1 _ hb) (hv.2.2.1 _) (wB_xa _ _ _ (by decide) (by decide) (vlt (hv.2.2.1 _)) _) ?_
  refine r_aload_n dX0_payOut_20 rfl ?_
  refine r_getR dX0_payOut_21 flX0_9 (br_s _ hb) (by decide) rfl (br_p1 hP _ hb) ?_
  refine r_aload_n dX0_payOut_24 rfl ?_
  refine r_getR dX0_payOut_25 flX0_21 (br_s _ hb) (by decide) rfl (br_p4 hP _ hb) ?_
  refine r_iload_n dX0_payOut_28 rfl ?_
  refine r_ialv dX0_payOut_29 (br_a4 _ hb) hi ((wB_a _ _ _ (by decide) (by decide) (vlt hi)).trans (xu_f _ _ (by decide))) ?_
  refine r_dup2 dX0_payOut_30 rfl rfl ?_
  refine r_ialv dX0_payOut_31 (br_a1 _ hb) (hv.2.2.2 _) (wB_a _ _ _ (by decide) (by decide) (vlt (hv.2.2.2 _))) ?_
  refine r_aload_n dX0_payOut_32 rfl ?_
  refine r_getR dX0_payOut_33 flX0_24 (br_s _ hb) (by decide) rfl (br_p5 hP _ hb) ?_
  refine r_iload_n dX0_payOut_36 rfl ?_
  refine r_ialv dX0_payOut_37 (br_a5 _ hb) hi ((wB_a _ _ _ (by decide) (by decide) (vlt hi)).trans (xu_f _ _ (by decide))) ?_
  refine r_iadd dX0_payOut_38 ?_
  refine r_iasv dX0_payOut_39 (br_a1 _ hb) (hv.2.2.2 _) (wB_xa _ _ _ (by decide) (by decide) (vlt (hv.2.2.2 _)) _) ?_
  refine r_aload_n dX0_payOut_40 rfl ?_
  refine r_getR dX0_payOut_41 flX0_36 (br_s _ hb) (by decide) rfl (br_p9 hP _ hb) ?_
  refine r_iload_n dX0_payOut_44 rfl ?_
  refine r_iconst (v := 1) dX0_payOut_45 (by decide) ?_
  refine r_iasv dX0_payOut_46 (br_a9 _ hb) hi (wB_xa _ _ _ (by decide) (by decide) (vlt hi) _) ?_
  exact r_vret dX0_payOut_47 rfl rfl (by simp only [sPay, sMv])
set_option maxHeartbeats 1000000 in
theorem k_takeBack {E : xCl} {ex : Bool} {I V : Nat → Nat → Int32} {J : Nat → Nat → Int64} {P : Nat → Nat → Nat} (hP : Pok P) {b : Nat} (hb : b ∈ BR) {n : Nat} (hv : Vok V n) {i : Int32} (hi : vp_in i 12) (d : Nat) : xEx E ex (d + 1) yX0_takeBack [.ref b, .int i] (SH, wB I b V, J, P) none (SH, wB I b (sBack V i.toNatClampNeg), J, P) := by
  refine x_enter cqX0_takeBack [some (.ref b), some (.int i)] rfl (by simp [lg_sl, Value.category]) ?_
  refine r_aload_n dX0_takeBack_0 rfl ?_
  refine r_getR dX0_takeBack_1 flX0_9 (br_s _ hb) (by decide) rfl (br_p1 hP _ hb) ?_
  refine r_aload_n dX0_takeBack_4 rfl ?_
  refine r_getR dX0_takeBack_5 flX0_18 (br_s _ hb) (by decide) rfl (br_p3 hP _ hb) ?_
  refine r_iload_n dX0_takeBack_8 rfl ?_
  refine r_ialv dX0_takeBack_9 (br_a3 _ hb) hi (wB_a _ _ _ (by decide) (by decide) (vlt hi)) ?_
  refine r_dup2 dX0_takeBack_10 rfl rfl ?_
  refine r_ialv dX0_takeBack_11 (br_a1 _ hb) (hv.2.2.1 _) (wB_a _ _ _ (by decide) (by decide) (vlt (hv.2.2.1 _))) ?_
  refine r_aload_n dX0_takeBack_12 rfl ?_
  refine r_getR dX0_takeBack_13 flX0_24 (br_s _ hb) (by decide) rfl (br_p5 hP _ hb) ?_
  refine r_iload_n dX0_takeBack_16 rfl ?_
  refine r_ialv dX0_takeBack_17 (br_a5 _ hb) hi (wB_a _ _ _ (by decide) (by decide) (vlt hi)) ?_
  refine r_iadd dX0_takeBack_18 ?_
  refine r_iasv dX0_takeBack_19 (br_a1 _ hb) (hv.2.2.1 _) (wB_xa _ _ _ (by decide) (by decide) (vlt (hv.2.2.1 _)) _) ?_
  refine r_aload_n dX0_takeBack_20 rfl ?_
  refine r_getR dX0_takeBack_21 flX0_9 (br_s _ hb) (by decide) rfl (br_p1 hP _ hb) ?_
  refine r_aload_n dX0_takeBack_24 rfl ?_
  refine r_getR dX0_takeBack_25 flX0_21 (br_s _ hb) (by decide) rfl (br_p4 hP _ hb) ?_
  refine r_iload_n dX0_takeBack_28 rfl ?_
  refine r_ialv dX0_takeBack_29 (br_a4 _ hb) hi ((wB_a _ _ _ (by decide) (by decide) (vlt hi)).trans (xu_f _ _ (by decide))) ?_
  refine r_dup2 dX0_takeBack_30 rfl rfl ?_
  refine r_ialv dX0_takeBack_31 (br_a1 _ hb) (hv.2.2.2 _) (wB_a _ _ _ (by decide) (by decide) (vlt (hv.2.2.2 _))) ?_
  refine r_aload_n dX0_takeBack_32 rfl ?_
  refine r_getR dX0_takeBack_33 flX0_24 (br_s _ hb) (by decide) rfl (br_p5 hP _ hb) ?_
  refine r_iload_n dX0_takeBack_36 rfl ?_
  refine r_ialv dX0_takeBack_37 (br_a5 _ hb) hi ((wB_a _ _ _ (by decide) (by decide) (vlt hi)).trans (xu_f _ _ (by decide))) ?_
  refine r_isub dX0_takeBack_38 ?_
  refine r_iasv dX0_takeBack_39 (br_a1 _ hb) (hv.2.2.2 _) (wB_xa _ _ _ (by decide) (by decide) (vlt (hv.2.2.2 _)) _) ?_
  refine r_aload_n dX0_takeBack_40 rfl ?_
  refine r_getR dX0_takeBack_41 flX0_36 (br_s _ hb) (by decide) rfl (br_p9 hP _ hb) ?_
  refine r_iload_n dX0_takeBack_44 rfl ?_
  refine r_iconst (v := 0) dX0_takeBack_45 (by decide) ?_
  refine r_iasv dX0_takeBack_46 (br_a9 _ hb) hi (wB_xa _ _ _ (by decide) (by decide) (vlt hi) _) ?_
  exact r_vret dX0_takeBack_47 rfl rfl (by simp only [sBack, sMvB])
def sFr (V : Nat → Nat → Int32) (i more : Int32) : Nat → Nat → Int32 := if sTh V i then (if V 6 i.toNatClampNeg + more < 100 then xu V 6 i.toNatClampNeg (V 6 i.toNatClampNeg + more) else xu (xu V 6 i.toNatClampNeg (V 6 i.toNatClampNeg + more)) 9 i.toNatClampNeg 3) else V
set_option maxHeartbeats 1000000 in
theorem k_fray {E : xCl} {ex : Bool} {I V : Nat → Nat → Int32} {J : Nat → Nat → Int64} {P : Nat → Nat → Nat} (hP : Pok P) {b : Nat} (hb : b ∈ BR) (i more : Int32) (d : Nat) : xEx E ex (d + 3) yX0_fray [.ref b, .int i, .int more] (SH, wB I b V, J, P) none (SH, wB I b (sFr V i more), J, P) := by
  refine x_enter cqX0_fray [some (.ref b), some (.int i), some (.int more)] rfl (by simp [lg_sl, Value.category]) ?_
  refine r_aload_n dX0_fray_0 rfl ?_
  refine r_iload_n dX0_fray_1 rfl ?_
  by_cases h2 : sTh V i
  · refine r_cV1i dX0_fray_2 vlX0_76 (br_s _ hb) (Nat.le_of_ble_eq_true rfl) (k_isThere_t hP hb h2 d) ?_
    refine r_if_eq 36 dX0_fray_5 (by decide) (fun c5 => ?_) (fun c5 => ?_)
    · exact absurd c5 (by decide)
    · refine r_aload_n dX0_fray_8 rfl ?_
      refine r_getR dX0_fray_9 flX0_27 (br_s _ hb) (by decide) rfl (br_p6 hP _ hb) ?_
      refine r_iload_n dX0_fray_12 rfl ?_
      refine r_dup2 dX0_fray_13 rfl rfl ?_
      refine r_ialv dX0_fray_14 (br_a6 _ hb) h2.in (wB_a _ _ _ (by decide) (by decide) (vlt h2.in)) ?_
      refine r_iload_n dX0_fray_15 rfl ?_
      refine r_iadd dX0_fray_16 ?_
      refine r_iasv dX0_fray_17 (br_a6 _ hb) h2.in (wB_xa _ _ _ (by decide) (by decide) (vlt h2.in) _) ?_
      refine r_aload_n dX0_fray_18 rfl ?_
      refine r_getR dX0_fray_19 flX0_27 (br_s _ hb) (by decide) rfl (br_p6 hP _ hb) ?_
      refine r_iload_n dX0_fray_22 rfl ?_
      refine r_ialv dX0_fray_23 (br_a6 _ hb) h2.in ((wB_a _ _ _ (by decide) (by decide) (vlt h2.in)).trans (xu_s _ _ _ _)) ?_
      refine r_bipush (v := 100) dX0_fray_24 (by decide) ?_
      refine r_ic_lt 36 dX0_fray_26 (by decide) (fun c26 => ?_) (fun c26 => ?_)
      · exact r_vret dX0_fray_36 rfl rfl (by rw [sFr, if_pos h2, if_pos c26])
      · refine r_aload_n dX0_fray_29 rfl ?_
        refine r_getR dX0_fray_30 flX0_36 (br_s _ hb) (by decide) rfl (br_p9 hP _ hb) ?_
        refine r_iload_n dX0_fray_33 rfl ?_
        refine r_iconst (v := 3) dX0_fray_34 (by decide) ?_
        refine r_iasv dX0_fray_35 (br_a9 _ hb) h2.in (wB_xa _ _ _ (by decide) (by decide) (vlt h2.in) _) ?_
        exact r_vret dX0_fray_36 rfl rfl (by rw [sFr, if_pos h2, if_neg c26])
  · refine r_cV1i dX0_fray_2 vlX0_76 (br_s _ hb) (Nat.le_of_ble_eq_true rfl) (k_isThere_f hP hb h2 d) ?_
    refine r_if_eq 36 dX0_fray_5 (by decide) (fun c5 => ?_) (fun c5 => ?_)
    · exact r_vret dX0_fray_36 rfl rfl (by rw [sFr, if_neg h2])
    · exact absurd c5 (by decide)
def sUn (V : Nat → Nat → Int32) (k : Nat) : Nat → Nat → Int32 := xu (if sSt V (V 10 k) then xu V 10 (V 10 k).toNatClampNeg (-1) else V) 10 k (-1)
def sTw (V : Nat → Nat → Int32) (i j : Int32) : Nat → Nat → Int32 := xu (xu V 10 i.toNatClampNeg j) 10 j.toNatClampNeg i
set_option maxHeartbeats 1000000 in
theorem k_untwine {E : xCl} {ex : Bool} {I V : Nat → Nat → Int32} {J : Nat → Nat → Int64} {P : Nat → Nat → Nat} (hP : Pok P) {b : Nat} (hb : b ∈ BR) {i : Int32} (hi : vp_in i 12) (d : Nat) : xEx E ex (d + 2) yX0_untwine [.ref b, .int i] (SH, wB I b V, J, P) none (SH, wB I b (sUn V i.toNatClampNeg), J, P) := by
  refine x_enter cqX0_untwine [some (.ref b), some (.int i), none] rfl (by simp [lg_sl, Value.category]) ?_
  refine r_aload_n dX0_untwine_0 rfl ?_
  refine r_getR dX0_untwine_1 flX0_39 (br_s _ hb) (by decide) rfl (br_p10 hP _ hb) ?_
  refine r_iload_n dX0_untwine_4 rfl ?_
  refine r_ialv dX0_untwine_5 (br_a10 _ hb) hi (wB_a _ _ _ (by decide) (by decide) (vlt hi)) ?_
  refine r_istore_n2 dX0_untwine_6 rfl ?_
  refine r_aload_n dX0_untwine_7 rfl ?_
  refine r_iload_n dX0_untwine_8 rfl ?_
  by_cases h9 : sSt V (V 10 i.toNatClampNeg)
  · refine r_cV1i dX0_untwine_9 vlX0_72 (br_s _ hb) (Nat.le_of_ble_eq_true rfl) (k_isStrand_t hb h9 d) ?_
    refine r_if_eq 22 dX0_untwine_12 (by decide) (fun c12 => ?_) (fun c12 => ?_)
    · exact absurd c12 (by decide)
    · refine r_aload_n dX0_untwine_15 rfl ?_
      refine r_getR dX0_untwine_16 flX0_39 (br_s _ hb) (by decide) rfl (br_p10 hP _ hb) ?_
      refine r_iload_n dX0_untwine_19 rfl ?_
      refine r_iconst (v := (-1)) dX0_untwine_20 (by decide) ?_
      refine r_iasv dX0_untwine_21 (br_a10 _ hb) (vin12 h9.1 h9.2.2) (wB_xa _ _ _ (by decide) (by decide) (vlt (vin12 h9.1 h9.2.2)) _) ?_
      refine r_aload_n dX0_untwine_22 rfl ?_
      refine r_getR dX0_untwine_23 flX0_39 (br_s _ hb) (by decide) rfl (br_p10 hP _ hb) ?_
      refine r_iload_n dX0_untwine_26 rfl ?_
      refine r_iconst (v := (-1)) dX0_untwine_27 (by decide) ?_
      refine r_iasv dX0_untwine_28 (br_a10 _ hb) hi (wB_xa _ _ _ (by decide) (by decide) (vlt hi) _) ?_
      exact r_vret dX0_untwine_29 rfl rfl (by rw [sUn, if_pos h9])
  · refine r_cV1i dX0_untwine_9 vlX0_72 (br_s _ hb) (Nat.le_of_ble_eq_true rfl) (k_isStrand_f hb h9 d) ?_
    refine r_if_eq 22 dX0_untwine_12 (by decide) (fun c12 => ?_) (fun c12 => ?_)
    · refine r_aload_n dX0_untwine_22 rfl ?_
      refine r_getR dX0_untwine_23 flX0_39 (br_s _ hb) (by decide) rfl (br_p10 hP _ hb) ?_
      refine r_iload_n dX0_untwine_26 rfl ?_
      refine r_iconst (v := (-1)) dX0_untwine_27 (by decide) ?_
      refine r_iasv dX0_untwine_28 (br_a10 _ hb) hi (wB_xa _ _ _ (by decide) (by decide) (vlt hi) _) ?_
      exact r_vret dX0_untwine_29 rfl rfl (by rw [sUn, if_neg h9])
    · exact absurd c12 (by decide)
set_option maxHeartbeats 1000000 in
theorem k_twine {E : xCl} {ex : Bool} {I V : Nat → Nat → Int32} {J : Nat → Nat → Int64} {P : Nat → Nat → Nat} (hP : Pok P) {b : Nat} (hb : b ∈ BR) {i : Int32} (hi : vp_in i 12) {j : Int32} (hj : vp_in j 12) (d : Nat) : xEx E ex (d + 1) yX0_twine [.ref b, .int i, .int j] (SH, wB I b V, J, P) none (SH, wB I b (sTw V i j), J, P) := by
  refine x_enter cqX0_twine [some (.ref b), some (.int i), some (.int j)] rfl (by simp [lg_sl, Value.category]) ?_
  refine r_aload_n dX0_twine_0 rfl ?_
  refine r_getR dX0_twine_1 flX0_39 (br_s _ hb) (by decide) rfl (br_p10 hP _ hb) ?_
  refine r_iload_n dX0_twine_4 rfl ?_
  refine r_iload_n dX0_twine_5 rfl ?_
  refine r_iasv dX0_twine_6 (br_a10 _ hb) hi (wB_xa _ _ _ (by decide) (by decide) (vlt hi) _) ?_
  refine r_aload_n dX0_twine_7 rfl ?_
  refine r_getR dX0_twine_8 flX0_39 (br_s _ hb) (by decide) rfl (br_p10 hP _ hb) ?_
  refine r_iload_n dX0_twine_11 rfl ?_
  refine r_iload_n dX0_twine_12 rfl ?_
  refine r_iasv dX0_twine_13 (br_a10 _ hb) hj (wB_xa _ _ _ (by decide) (by decide) (vlt hj) _) ?_
  exact r_vret dX0_twine_14 rfl rfl rfl
def sPa (V : Nat → Nat → Int32) (c told : Int32) : Nat → Nat → Int32 := xu V 12 0 (if told ≤ c then 0 else 1 <<< (c &&& 31))
set_option maxHeartbeats 1000000 in
theorem k_paintAlone {E : xCl} {ex : Bool} {I V : Nat → Nat → Int32} {J : Nat → Nat → Int64} {P : Nat → Nat → Nat} {b : Nat} (hb : b ∈ BR) (c told : Int32) (d : Nat) : xEx E ex (d + 1) yX0_paintAlone [.ref b, .int c, .int told] (SH, wB I b V, J, P) none (SH, wB I b (sPa V c told), J, P) := by
  refine x_enter cqX0_paintAlone [some (.ref b), some (.int c), some (.int told)] rfl (by simp [lg_sl, Value.category]) ?_
  refine r_aload_n dX0_paintAlone_0 rfl ?_
  refine r_iload_n dX0_paintAlone_1 rfl ?_
  refine r_iload_n dX0_paintAlone_2 rfl ?_
  refine r_ic_ge 12 dX0_paintAlone_3 (by decide) (fun c3 => ?_) (fun c3 => ?_)
  · refine r_iconst (v := 0) dX0_paintAlone_12 (by decide) ?_
    refine r_putIv dX0_paintAlone_13 flX0_53 ⟨_, _, _, rfl, Or.inl rfl⟩ (br_s _ hb) (by decide) rfl rfl rfl (wB_xi _ _ _ (by decide) _) ?_
    exact r_vret dX0_paintAlone_16 rfl rfl (by rw [sPa, if_pos c3])
  · refine r_iconst (v := 1) dX0_paintAlone_6 (by decide) ?_
    refine r_iload_n dX0_paintAlone_7 rfl ?_
    refine r_ishl dX0_paintAlone_8 ?_
    refine r_goto 13 dX0_paintAlone_9 (by decide) ?_
    refine r_putIv dX0_paintAlone_13 flX0_53 ⟨_, _, _, rfl, Or.inl rfl⟩ (br_s _ hb) (by decide) rfl rfl rfl (wB_xi _ _ _ (by decide) _) ?_
    exact r_vret dX0_paintAlone_16 rfl rfl (by rw [sPa, if_neg c3])
def sAdd (V : Nat → Nat → Int32) (n : Nat) (p q w f u : Int32) : Nat → Nat → Int32 := xu (xu (xu (xu (xu (xu (xu (xu (xu V 3 n p) 4 n q) 5 n w) 6 n f) 7 n u) 8 n (V 15 0)) 9 n 0) 10 n (-1)) 13 0 (nI (n + 1))
set_option maxHeartbeats 1000000 in
theorem k_addStrand {E : xCl} {ex : Bool} {I V : Nat → Nat → Int32} {J : Nat → Nat → Int64} {P : Nat → Nat → Nat} (hP : Pok P) {b : Nat} (hb : b ∈ BR) {n : Nat} (hv : Vok V n) (hn : n < 12) (p q w f u : Int32) (d : Nat) : xEx E ex (d + 1) yX0_addStrand [.ref b, .int p, .int q, .int w, .int f, .int u] (SH, wB I b V, J, P) none (SH, wB I b (sAdd V n p q w f u), J, P) := by
  refine x_enter cqX0_addStrand [some (.ref b), some (.int p), some (.int q), some (.int w), some (.int f), some (.int u)] rfl (by simp [lg_sl, Value.category]) ?_
  refine r_aload_n dX0_addStrand_0 rfl ?_
  refine r_getIv dX0_addStrand_1 flX0_57 (br_s _ hb) (by decide) rfl ((wB_i _ _ _ (by decide)).trans hv.2.1) ?_
  refine r_bipush (v := 12) dX0_addStrand_4 (by decide) ?_
  refine r_ic_ge 104 dX0_addStrand_6 (by decide) (fun c6 => ?_) (fun c6 => ?_)
  · exact absurd c6 (lt12 hn)
  · refine r_aload_n dX0_addStrand_9 rfl ?_
    refine r_getR dX0_addStrand_10 flX0_18 (br_s _ hb) (by decide) rfl (br_p3 hP _ hb) ?_
    refine r_aload_n dX0_addStrand_13 rfl ?_
    refine r_getIv dX0_addStrand_14 flX0_57 (br_s _ hb) (by decide) rfl (v := nI n) (by rw [wB_i _ _ _ (by decide)]; simp [xu_f, hv.2.1]) ?_
    refine r_iload_n dX0_addStrand_17 rfl ?_
    refine r_iasv dX0_addStrand_18 (br_a3 _ hb) (vp_in_nI (by omega) (by omega)) ((congrArg (fun z => xu _ _ z _) (nI_clamp (by omega))).trans (wB_xa _ _ _ (by decide) (by decide) hn _)) ?_
    refine r_aload_n dX0_addStrand_19 rfl ?_
    refine r_getR dX0_addStrand_20 flX0_21 (br_s _ hb) (by decide) rfl (br_p4 hP _ hb) ?_
    refine r_aload_n dX0_addStrand_23 rfl ?_
    refine r_getIv dX0_addStrand_24 flX0_57 (br_s _ hb) (by decide) rfl (v := nI n) (by rw [wB_i _ _ _ (by decide)]; simp [xu_f, hv.2.1]) ?_
    refine r_iload_n dX0_addStrand_27 rfl ?_
    refine r_iasv dX0_addStrand_28 (br_a4 _ hb) (vp_in_nI (by omega) (by omega)) ((congrArg (fun z => xu _ _ z _) (nI_clamp (by omega))).trans (wB_xa _ _ _ (by decide) (by decide) hn _)) ?_
    refine r_aload_n dX0_addStrand_29 rfl ?_
    refine r_getR dX0_addStrand_30 flX0_24 (br_s _ hb) (by decide) rfl (br_p5 hP _ hb) ?_
    refine r_aload_n dX0_addStrand_33 rfl ?_
    refine r_getIv dX0_addStrand_34 flX0_57 (br_s _ hb) (by decide) rfl (v := nI n) (by rw [wB_i _ _ _ (by decide)]; simp [xu_f, hv.2.1]) ?_
    refine r_iload_n dX0_addStrand_37 rfl ?_
    refine r_iasv dX0_addStrand_38 (br_a5 _ hb) (vp_in_nI (by omega) (by omega)) ((congrArg (fun z => xu _ _ z _) (nI_clamp (by omega))).trans (wB_xa _ _ _ (by decide) (by decide) hn _)) ?_
    refine r_aload_n dX0_addStrand_39 rfl ?_
    refine r_getR dX0_addStrand_40 flX0_27 (br_s _ hb) (by decide) rfl (br_p6 hP _ hb) ?_
    refine r_aload_n dX0_addStrand_43 rfl ?_
    refine r_getIv dX0_addStrand_44 flX0_57 (br_s _ hb) (by decide) rfl (v := nI n) (by rw [wB_i _ _ _ (by decide)]; simp [xu_f, hv.2.1]) ?_
    refine r_iload dX0_addStrand_47 rfl ?_
    refine r_iasv dX0_addStrand_49 (br_a6 _ hb) (vp_in_nI (by omega) (by omega)) ((congrArg (fun z => xu _ _ z _) (nI_clamp (by omega))).trans (wB_xa _ _ _ (by decide) (by decide) hn _)) ?_
    refine r_aload_n dX0_addStrand_50 rfl ?_
    refine r_getR dX0_addStrand_51 flX0_30 (br_s _ hb) (by decide) rfl (br_p7 hP _ hb) ?_
    refine r_aload_n dX0_addStrand_54 rfl ?_
    refine r_getIv dX0_addStrand_55 flX0_57 (br_s _ hb) (by decide) rfl (v := nI n) (by rw [wB_i _ _ _ (by decide)]; simp [xu_f, hv.2.1]) ?_
    refine r_iload dX0_addStrand_58 rfl ?_
    refine r_iasv dX0_addStrand_60 (br_a7 _ hb) (vp_in_nI (by omega) (by omega)) ((congrArg (fun z => xu _ _ z _) (nI_clamp (by omega))).trans (wB_xa _ _ _ (by decide) (by decide) hn _)) ?_
    refine r_aload_n dX0_addStrand_61 rfl ?_
    refine r_getR dX0_addStrand_62 flX0_33 (br_s _ hb) (by decide) rfl (br_p8 hP _ hb) ?_
    refine r_aload_n dX0_addStrand_65 rfl ?_
    refine r_getIv dX0_addStrand_66 flX0_57 (br_s _ hb) (by decide) rfl (v := nI n) (by rw [wB_i _ _ _ (by decide)]; simp [xu_f, hv.2.1]) ?_
    refine r_aload_n dX0_addStrand_69 rfl ?_
    refine r_getIv dX0_addStrand_70 flX0_63 (br_s _ hb) (by decide) rfl (v := V 15 0) (by rw [wB_i _ _ _ (by decide)]; simp [xu_f]) ?_
    refine r_iasv dX0_addStrand_73 (br_a8 _ hb) (vp_in_nI (by omega) (by omega)) ((congrArg (fun z => xu _ _ z _) (nI_clamp (by omega))).trans (wB_xa _ _ _ (by decide) (by decide) hn _)) ?_
    refine r_aload_n dX0_addStrand_74 rfl ?_
    refine r_getR dX0_addStrand_75 flX0_36 (br_s _ hb) (by decide) rfl (br_p9 hP _ hb) ?_
    refine r_aload_n dX0_addStrand_78 rfl ?_
    refine r_getIv dX0_addStrand_79 flX0_57 (br_s _ hb) (by decide) rfl (v := nI n) (by rw [wB_i _ _ _ (by decide)]; simp [xu_f, hv.2.1]) ?_
    refine r_iconst (v := 0) dX0_addStrand_82 (by decide) ?_
    refine r_iasv dX0_addStrand_83 (br_a9 _ hb) (vp_in_nI (by omega) (by omega)) ((congrArg (fun z => xu _ _ z _) (nI_clamp (by omega))).trans (wB_xa _ _ _ (by decide) (by decide) hn _)) ?_
    refine r_aload_n dX0_addStrand_84 rfl ?_
    refine r_getR dX0_addStrand_85 flX0_39 (br_s _ hb) (by decide) rfl (br_p10 hP _ hb) ?_
    refine r_aload_n dX0_addStrand_88 rfl ?_
    refine r_getIv dX0_addStrand_89 flX0_57 (br_s _ hb) (by decide) rfl (v := nI n) (by rw [wB_i _ _ _ (by decide)]; simp [xu_f, hv.2.1]) ?_
    refine r_iconst (v := (-1)) dX0_addStrand_92 (by decide) ?_
    refine r_iasv dX0_addStrand_93 (br_a10 _ hb) (vp_in_nI (by omega) (by omega)) ((congrArg (fun z => xu _ _ z _) (nI_clamp (by omega))).trans (wB_xa _ _ _ (by decide) (by decide) hn _)) ?_
    refine r_aload_n dX0_addStrand_94 rfl ?_
    refine r_dup dX0_addStrand_95 rfl ?_
    refine r_getIv dX0_addStrand_96 flX0_57 (br_s _ hb) (by decide) rfl (v := nI n) (by rw [wB_i _ _ _ (by decide)]; simp [xu_f, hv.2.1]) ?_
    refine r_iconst (v := 1) dX0_addStrand_99 (by decide) ?_
    refine r_iadd dX0_addStrand_100 ?_
    refine r_putIv dX0_addStrand_101 flX0_57 ⟨_, _, _, rfl, Or.inl rfl⟩ (br_s _ hb) (by decide) rfl rfl rfl (wB_xi _ _ _ (by decide) _) ?_
    exact r_vret dX0_addStrand_104 rfl rfl (by rw [nI_1]; rfl)
def sWl (v : Int64) (most wo : Int32) : Int32 := if v = -9223372036854775808 then wo else if v < 0 then 0 else if most.toInt64 < v then most else v.toInt32
set_option maxHeartbeats 1000000 in
theorem k_within {E : xCl} {ex : Bool} {I : Nat → Nat → Int32} {J : Nat → Nat → Int64} {P : Nat → Nat → Nat} {b : Nat} (v : Int64) (most wo : Int32) (d : Nat) : xEx E ex (d + 1) yX0_within [.long v, .int most, .int wo] (SH, I, J, P) (some (.int (sWl v most wo))) (SH, I, J, P) := by
  refine x_enter cqX0_within [some (.long v), none, some (.int most), some (.int wo)] rfl (by simp [lg_sl, Value.category]) ?_
  refine r_lload_n dX0_within_0 rfl ?_
  refine r_ldc2_w dX0_within_1 kcX0_113 ?_
  refine r_lcmp dX0_within_4 ?_
  refine r_if_ne 10 dX0_within_5 (by decide) (fun c5 => ?_) (fun c5 => ?_)
  · refine r_lload_n dX0_within_10 rfl ?_
    refine r_lconst (v := 0) dX0_within_11 (by decide) ?_
    refine r_lcmp dX0_within_12 ?_
    refine r_if_ge 20 dX0_within_13 (by decide) (fun c13 => ?_) (fun c13 => ?_)
    · refine r_lload_n dX0_within_20 rfl ?_
      refine r_iload_n dX0_within_21 rfl ?_
      refine r_i2l dX0_within_22 ?_
      refine r_lcmp dX0_within_23 ?_
      refine r_if_le 31 dX0_within_24 (by decide) (fun c24 => ?_) (fun c24 => ?_)
      · refine r_lload_n dX0_within_31 rfl ?_
        refine r_l2i dX0_within_32 ?_
        exact r_iret dX0_within_33 rfl rfl (by rw [sWl, if_neg (fun q => c5 ((lg_cmp_eq _ _).mpr q)), if_neg (by have := (lg_cmp_ge v 0).mp c13; simpa using this), if_neg (by have := (lg_cmp_le v most.toInt64).mp c24; simpa using this)]) rfl
      · refine r_iload_n dX0_within_27 rfl ?_
        refine r_goto 33 dX0_within_28 (by decide) ?_
        exact r_iret dX0_within_33 rfl rfl (by rw [sWl, if_neg (fun q => c5 ((lg_cmp_eq _ _).mpr q)), if_neg (by have := (lg_cmp_ge v 0).mp c13; simpa using this), if_pos (by have := (not_congr (lg_cmp_le v most.toInt64)).mp c24; simpa using this)]) rfl
    · refine r_iconst (v := 0) dX0_within_16 (by decide) ?_
      refine r_goto 33 dX0_within_17 (by decide) ?_
      exact r_iret dX0_within_33 rfl rfl (by rw [sWl, if_neg (fun q => c5 ((lg_cmp_eq _ _).mpr q)), if_pos (by have := (not_congr (lg_cmp_ge v 0)).mp c13; simpa using this)]) rfl
  · refine r_iload_n dX0_within_8 rfl ?_
    exact r_iret dX0_within_9 rfl rfl (by rw [sWl, if_pos ((lg_cmp_eq _ _).mp c5)]) rfl
/-- the names of the laws of the tale t -/
def wN (J : Nat → Nat → Int64) (t : Nat) (N : Nat → Int64) : Nat → Nat → Int64 := fun a k => if a = t + 11 ∧ k < 7 then N k else J a k
theorem wN_7 (J : Nat → Nat → Int64) (t : Nat) (x0 x1 x2 x3 x4 x5 x6 : Int32) : xu (xu (xu (xu (xu (xu (xu J (t + 11) 0 x0.toInt64) (t + 11) 1 x1.toInt64) (t + 11) 2 x2.toInt64) (t + 11) 3 x3.toInt64) (t + 11) 4 x4.toInt64) (t + 11) 5 x5.toInt64) (t + 11) 6 x6.toInt64 = wN J t (sN7 x0 x1 x2 x3 x4 x5 x6) := by
  funext a k
  simp only [xu, wN]
  by_cases h : a = t + 11
  · subst h
    simp only [true_and]
    match k with
    | 0 => rfl
    | 1 => rfl
    | 2 => rfl
    | 3 => rfl
    | 4 => rfl
    | 5 => rfl
    | 6 => rfl
    | k + 7 =>
      have h7 : ¬ k + 7 < 7 := by omega
      simp [h7]
  · simp [h]
set_option maxHeartbeats 1000000 in
theorem k_setNames {E : xCl} {ex : Bool} {I V : Nat → Nat → Int32} {J : Nat → Nat → Int64} {P : Nat → Nat → Nat} (hP : Pok P) {b : Nat} (hb : b ∈ BR) {t : Nat} (ht : t ∈ TL) (hbt : P b 0 = t + 1) (x0 x1 x2 x3 x5 x6 : Int32) (d : Nat) : xEx E ex (d + 1) yX0_setNames [.ref b, .int x0, .int x1, .int x2, .int x3, .int x5, .int x6] (SH, wB I b V, J, P) none (SH, wB I b V, wN J t (sN7 x0 x1 x2 x3 (V 15 0) x5 x6), P) := by
  refine x_enter cqX0_setNames [some (.ref b), some (.int x0), some (.int x1), some (.int x2), some (.int x3), some (.int x5), some (.int x6), none] rfl (by simp [lg_sl, Value.category]) ?_
  refine r_aload_n dX0_setNames_0 rfl ?_
  refine r_getR dX0_setNames_1 flX0_49 (br_s _ hb) (by decide) rfl hbt ?_
  refine r_getR dX0_setNames_4 flX0_91 (tl_s _ ht) (by decide) rfl (tl_p8 hP _ ht) ?_
  refine r_getR dX0_setNames_7 flX0_95 (tl_w _ ht) (by decide) rfl (tw_p3 hP _ ht) ?_
  refine r_astore7 dX0_setNames_10 rfl ?_
  refine r_aload dX0_setNames_12 rfl ?_
  refine r_iconst (v := 0) dX0_setNames_14 (by decide) ?_
  refine r_iload_n dX0_setNames_15 rfl ?_
  refine r_i2l dX0_setNames_16 ?_
  refine r_las dX0_setNames_17 (tw_a3 _ ht) (vp_in_iff.mpr (by decide)) ?_
  refine r_aload dX0_setNames_18 rfl ?_
  refine r_iconst (v := 1) dX0_setNames_20 (by decide) ?_
  refine r_iload_n dX0_setNames_21 rfl ?_
  refine r_i2l dX0_setNames_22 ?_
  refine r_las dX0_setNames_23 (tw_a3 _ ht) (vp_in_iff.mpr (by decide)) ?_
  refine r_aload dX0_setNames_24 rfl ?_
  refine r_iconst (v := 2) dX0_setNames_26 (by decide) ?_
  refine r_iload_n dX0_setNames_27 rfl ?_
  refine r_i2l dX0_setNames_28 ?_
  refine r_las dX0_setNames_29 (tw_a3 _ ht) (vp_in_iff.mpr (by decide)) ?_
  refine r_aload dX0_setNames_30 rfl ?_
  refine r_iconst (v := 3) dX0_setNames_32 (by decide) ?_
  refine r_iload dX0_setNames_33 rfl ?_
  refine r_i2l dX0_setNames_35 ?_
  refine r_las dX0_setNames_36 (tw_a3 _ ht) (vp_in_iff.mpr (by decide)) ?_
  refine r_aload dX0_setNames_37 rfl ?_
  refine r_iconst (v := 4) dX0_setNames_39 (by decide) ?_
  refine r_aload_n dX0_setNames_40 rfl ?_
  refine r_getIv dX0_setNames_41 flX0_63 (br_s _ hb) (by decide) rfl (wB_i _ _ _ (by decide)) ?_
  refine r_i2l dX0_setNames_44 ?_
  refine r_las dX0_setNames_45 (tw_a3 _ ht) (vp_in_iff.mpr (by decide)) ?_
  refine r_aload dX0_setNames_46 rfl ?_
  refine r_iconst (v := 5) dX0_setNames_48 (by decide) ?_
  refine r_iload dX0_setNames_49 rfl ?_
  refine r_i2l dX0_setNames_51 ?_
  refine r_las dX0_setNames_52 (tw_a3 _ ht) (vp_in_iff.mpr (by decide)) ?_
  refine r_aload dX0_setNames_53 rfl ?_
  refine r_bipush (v := 6) dX0_setNames_55 (by decide) ?_
  refine r_iload dX0_setNames_57 rfl ?_
  refine r_i2l dX0_setNames_59 ?_
  refine r_las dX0_setNames_60 (tw_a3 _ ht) (vp_in_iff.mpr (by decide)) ?_
  exact r_vret dX0_setNames_61 rfl rfl (by rw [← wN_7]; rfl)
set_option maxHeartbeats 1000000 in
theorem k_measure {E : xCl} {ex : Bool} {I V : Nat → Nat → Int32} {J : Nat → Nat → Int64} {P : Nat → Nat → Nat} (hP : Pok P) {b : Nat} (hb : b ∈ BR) {t : Nat} (ht : t ∈ TL) (hbt : P b 0 = t + 1) {n : Nat} (hv : Vok V n) {i : Int32} (hi : vp_in i 12) (two : Int32) (d : Nat) : xEx E ex (d + 2) yX0_measure [.ref b, .int i, .int two] (SH, wB I b V, J, P) none (SH, wB I b V, wN J t (sNm V i two), P) := by
  refine x_enter cqX0_measure [some (.ref b), some (.int i), some (.int two)] rfl (by simp [lg_sl, Value.category]) ?_
  refine r_aload_n dX0_measure_0 rfl ?_
  refine r_aload_n dX0_measure_1 rfl ?_
  refine r_getR dX0_measure_2 flX0_24 (br_s _ hb) (by decide) rfl (br_p5 hP _ hb) ?_
  refine r_iload_n dX0_measure_5 rfl ?_
  refine r_ialv dX0_measure_6 (br_a5 _ hb) hi (wB_a _ _ _ (by decide) (by decide) (vlt hi)) ?_
  refine r_aload_n dX0_measure_7 rfl ?_
  refine r_getR dX0_measure_8 flX0_27 (br_s _ hb) (by decide) rfl (br_p6 hP _ hb) ?_
  refine r_iload_n dX0_measure_11 rfl ?_
  refine r_ialv dX0_measure_12 (br_a6 _ hb) hi (wB_a _ _ _ (by decide) (by decide) (vlt hi)) ?_
  refine r_aload_n dX0_measure_13 rfl ?_
  refine r_getIv dX0_measure_14 flX0_63 (br_s _ hb) (by decide) rfl (wB_i _ _ _ (by decide)) ?_
  refine r_aload_n dX0_measure_17 rfl ?_
  refine r_getR dX0_measure_18 flX0_33 (br_s _ hb) (by decide) rfl (br_p8 hP _ hb) ?_
  refine r_iload_n dX0_measure_21 rfl ?_
  refine r_ialv dX0_measure_22 (br_a8 _ hb) hi (wB_a _ _ _ (by decide) (by decide) (vlt hi)) ?_
  refine r_isub dX0_measure_23 ?_
  refine r_aload_n dX0_measure_24 rfl ?_
  refine r_getR dX0_measure_25 flX0_30 (br_s _ hb) (by decide) rfl (br_p7 hP _ hb) ?_
  refine r_iload_n dX0_measure_28 rfl ?_
  refine r_ialv dX0_measure_29 (br_a7 _ hb) hi (wB_a _ _ _ (by decide) (by decide) (vlt hi)) ?_
  refine r_aload_n dX0_measure_30 rfl ?_
  refine r_getR dX0_measure_31 flX0_9 (br_s _ hb) (by decide) rfl (br_p1 hP _ hb) ?_
  refine r_aload_n dX0_measure_34 rfl ?_
  refine r_getR dX0_measure_35 flX0_18 (br_s _ hb) (by decide) rfl (br_p3 hP _ hb) ?_
  refine r_iload_n dX0_measure_38 rfl ?_
  refine r_ialv dX0_measure_39 (br_a3 _ hb) hi (wB_a _ _ _ (by decide) (by decide) (vlt hi)) ?_
  refine r_ialv dX0_measure_40 (br_a1 _ hb) (hv.2.2.1 _) (wB_a _ _ _ (by decide) (by decide) (vlt (hv.2.2.1 _))) ?_
  refine r_iload_n dX0_measure_41 rfl ?_
  refine r_cV6v dX0_measure_42 vlX0_87 (br_s _ hb) (Nat.le_of_ble_eq_true rfl) (k_setNames hP hb ht hbt _ _ _ _ _ _ d) ?_
  exact r_vret dX0_measure_45 rfl rfl rfl
