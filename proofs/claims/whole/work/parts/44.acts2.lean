def sTs (V : Nat → Nat → Int32) (a c : Int32) : Nat → Nat → Int32 := if a = c then sUn (sUn V a.toNatClampNeg) c.toNatClampNeg else sTw (sUn (sUn V a.toNatClampNeg) c.toNatClampNeg) a c
abbrev okT (V : Nat → Nat → Int32) (a c : Int32) : Prop := sTh V a ∧ sTh V c ∧ ¬ V 10 a.toNatClampNeg = (if a = c then -1 else c)
set_option maxHeartbeats 1000000 in
theorem k_twist_t {E : xCl} {ex : Bool} {I V : Nat → Nat → Int32} {J : Nat → Nat → Int64} {P : Nat → Nat → Nat} (hP : Pok P) {t : Nat} (ht : t ∈ TL) (hx5 : P 0 5 = t + 1) (hbt : P 56 0 = t + 1) {sn cn : Nat} (hsn : sn < 20) (h12 : I 0 12 = nI sn) (hcn : cn ≤ 20) (h13 : I 0 13 = nI cn) {a c : Int32} (h : okT V a c) (d : Nat) : xEx E ex (d + 3) yX10_twist [.ref 0, .int a, .int c] (SH, wB I 56 V, J, P) (some (.int 1)) (SH, wB (svI I V sn cn) 56 (sTs V a c), J, xu P (107 + 12 * sn) 0 (t + 1)) := by
  refine x_enter cqX10_twist [some (.ref 0), some (.int a), some (.int c), none] rfl (by simp [lg_sl, Value.category]) ?_
  refine r_aload_n dX10_twist_0 rfl ?_
  refine r_getR dX10_twist_1 flX10_42 sh_0 (by decide) rfl (pf_0_7 hP) ?_
  refine r_iload_n dX10_twist_4 rfl ?_
  refine r_cV1i dX10_twist_5 vlX10_220 (br_s _ hb56) (Nat.le_of_ble_eq_true rfl) (k_isThere_t hP hb56 h.1 d) ?_
  refine r_if_eq 22 dX10_twist_8 (by decide) (fun c8 => ?_) (fun c8 => ?_)
  · exact absurd c8 (by decide)
  · refine r_aload_n dX10_twist_11 rfl ?_
    refine r_getR dX10_twist_12 flX10_42 sh_0 (by decide) rfl (pf_0_7 hP) ?_
    refine r_iload_n dX10_twist_15 rfl ?_
    refine r_cV1i dX10_twist_16 vlX10_220 (br_s _ hb56) (Nat.le_of_ble_eq_true rfl) (k_isThere_t hP hb56 h.2.1 d) ?_
    refine r_if_ne 24 dX10_twist_19 (by decide) (fun c19 => ?_) (fun c19 => ?_)
    · refine r_iload_n dX10_twist_24 rfl ?_
      refine r_iload_n dX10_twist_25 rfl ?_
      refine r_ic_ne 33 dX10_twist_26 (by decide) (fun c26 => ?_) (fun c26 => ?_)
      · refine r_iconst (v := 0) dX10_twist_33 (by decide) ?_
        refine r_istore_n3 dX10_twist_34 rfl ?_
        refine r_aload_n dX10_twist_35 rfl ?_
        refine r_getR dX10_twist_36 flX10_42 sh_0 (by decide) rfl (pf_0_7 hP) ?_
        refine r_getR dX10_twist_39 flX10_199 (br_s _ hb56) (by decide) rfl (br_p10 hP _ hb56) ?_
        refine r_iload_n dX10_twist_42 rfl ?_
        refine r_ialv dX10_twist_43 (br_a10 _ hb56) h.1.in (wB_a _ _ _ (by decide) (by decide) (vlt h.1.in)) ?_
        refine r_iload_n dX10_twist_44 rfl ?_
        refine r_if_eq 52 dX10_twist_45 (by decide) (fun c45 => ?_) (fun c45 => ?_)
        · refine r_iload_n dX10_twist_52 rfl ?_
          refine r_ic_ne 58 dX10_twist_53 (by decide) (fun c53 => ?_) (fun c53 => ?_)
          · refine r_aload_n dX10_twist_58 rfl ?_
            refine r_cV0v dX10_twist_59 vlX10_254 sh_0 (Nat.le_of_ble_eq_true rfl) (k_saveAct hP ht hx5 hbt hsn h12 hcn h13 (d)) ?_
            have hP := hP.xb (sv_b sn hsn) (t + 1); have hbt : xu P (107 + 12 * sn) 0 (t + 1) 56 0 = t + 1 := (xu_f _ _ (by omega)).trans hbt; have hx5 : xu P (107 + 12 * sn) 0 (t + 1) 0 5 = t + 1 := (xu_f _ _ (by omega)).trans hx5
            refine r_aload_n dX10_twist_62 rfl ?_
            refine r_getR dX10_twist_63 flX10_42 sh_0 (by decide) rfl (pf_0_7 hP) ?_
            refine r_iload_n dX10_twist_66 rfl ?_
            refine r_cV1v dX10_twist_67 vlX10_267 (br_s _ hb56) (Nat.le_of_ble_eq_true rfl) (k_untwine hP hb56 h.1.in d) ?_
            refine r_aload_n dX10_twist_70 rfl ?_
            refine r_getR dX10_twist_71 flX10_42 sh_0 (by decide) rfl (pf_0_7 hP) ?_
            refine r_iload_n dX10_twist_74 rfl ?_
            refine r_cV1v dX10_twist_75 vlX10_267 (br_s _ hb56) (Nat.le_of_ble_eq_true rfl) (k_untwine hP hb56 h.2.1.in d) ?_
            refine r_iload_n dX10_twist_78 rfl ?_
            refine r_if_ne 91 dX10_twist_79 (by decide) (fun c79 => ?_) (fun c79 => ?_)
            · exact absurd c79 (by decide)
            · refine r_aload_n dX10_twist_82 rfl ?_
              refine r_getR dX10_twist_83 flX10_42 sh_0 (by decide) rfl (pf_0_7 hP) ?_
              refine r_iload_n dX10_twist_86 rfl ?_
              refine r_iload_n dX10_twist_87 rfl ?_
              refine r_cV2v dX10_twist_88 vlX10_270 (br_s _ hb56) (Nat.le_of_ble_eq_true rfl) (k_twine hP hb56 h.1.in h.2.1.in (d + 1)) ?_
              refine r_iconst (v := 1) dX10_twist_91 (by decide) ?_
              exact r_iret dX10_twist_92 rfl rfl rfl (by rw [sTs, if_neg c26])
          · exact absurd (by first | (rw [if_pos c26]; exact c53) | (rw [if_neg c26]; exact c53)) h.2.2
        · exact absurd c45 (by decide)
      · refine r_iconst (v := 1) dX10_twist_29 (by decide) ?_
        refine r_goto 34 dX10_twist_30 (by decide) ?_
        refine r_istore_n3 dX10_twist_34 rfl ?_
        refine r_aload_n dX10_twist_35 rfl ?_
        refine r_getR dX10_twist_36 flX10_42 sh_0 (by decide) rfl (pf_0_7 hP) ?_
        refine r_getR dX10_twist_39 flX10_199 (br_s _ hb56) (by decide) rfl (br_p10 hP _ hb56) ?_
        refine r_iload_n dX10_twist_42 rfl ?_
        refine r_ialv dX10_twist_43 (br_a10 _ hb56) h.1.in (wB_a _ _ _ (by decide) (by decide) (vlt h.1.in)) ?_
        refine r_iload_n dX10_twist_44 rfl ?_
        refine r_if_eq 52 dX10_twist_45 (by decide) (fun c45 => ?_) (fun c45 => ?_)
        · exact absurd c45 (by decide)
        · refine r_iconst (v := (-1)) dX10_twist_48 (by decide) ?_
          refine r_goto 53 dX10_twist_49 (by decide) ?_
          refine r_ic_ne 58 dX10_twist_53 (by decide) (fun c53 => ?_) (fun c53 => ?_)
          · refine r_aload_n dX10_twist_58 rfl ?_
            refine r_cV0v dX10_twist_59 vlX10_254 sh_0 (Nat.le_of_ble_eq_true rfl) (k_saveAct hP ht hx5 hbt hsn h12 hcn h13 (d)) ?_
            have hP := hP.xb (sv_b sn hsn) (t + 1); have hbt : xu P (107 + 12 * sn) 0 (t + 1) 56 0 = t + 1 := (xu_f _ _ (by omega)).trans hbt; have hx5 : xu P (107 + 12 * sn) 0 (t + 1) 0 5 = t + 1 := (xu_f _ _ (by omega)).trans hx5
            refine r_aload_n dX10_twist_62 rfl ?_
            refine r_getR dX10_twist_63 flX10_42 sh_0 (by decide) rfl (pf_0_7 hP) ?_
            refine r_iload_n dX10_twist_66 rfl ?_
            refine r_cV1v dX10_twist_67 vlX10_267 (br_s _ hb56) (Nat.le_of_ble_eq_true rfl) (k_untwine hP hb56 h.1.in d) ?_
            refine r_aload_n dX10_twist_70 rfl ?_
            refine r_getR dX10_twist_71 flX10_42 sh_0 (by decide) rfl (pf_0_7 hP) ?_
            refine r_iload_n dX10_twist_74 rfl ?_
            refine r_cV1v dX10_twist_75 vlX10_267 (br_s _ hb56) (Nat.le_of_ble_eq_true rfl) (k_untwine hP hb56 h.2.1.in d) ?_
            refine r_iload_n dX10_twist_78 rfl ?_
            refine r_if_ne 91 dX10_twist_79 (by decide) (fun c79 => ?_) (fun c79 => ?_)
            · refine r_iconst (v := 1) dX10_twist_91 (by decide) ?_
              exact r_iret dX10_twist_92 rfl rfl rfl (by rw [sTs, if_pos c26])
            · exact absurd c79 (by decide)
          · exact absurd (by first | (rw [if_pos c26]; exact c53) | (rw [if_neg c26]; exact c53)) h.2.2
    · exact absurd c19 (by decide)
set_option maxHeartbeats 1000000 in
theorem k_twist_f {E : xCl} {ex : Bool} {I V : Nat → Nat → Int32} {J : Nat → Nat → Int64} {P : Nat → Nat → Nat} (hP : Pok P) {t : Nat} (ht : t ∈ TL) (hx5 : P 0 5 = t + 1) (hbt : P 56 0 = t + 1) {a c : Int32} (h : ¬ okT V a c) (d : Nat) : xEx E ex (d + 3) yX10_twist [.ref 0, .int a, .int c] (SH, wB I 56 V, J, P) (some (.int 0)) (SH, wB I 56 V, J, P) := by
  refine x_enter cqX10_twist [some (.ref 0), some (.int a), some (.int c), none] rfl (by simp [lg_sl, Value.category]) ?_
  refine r_aload_n dX10_twist_0 rfl ?_
  refine r_getR dX10_twist_1 flX10_42 sh_0 (by decide) rfl (pf_0_7 hP) ?_
  refine r_iload_n dX10_twist_4 rfl ?_
  by_cases h5 : sTh V a
  · refine r_cV1i dX10_twist_5 vlX10_220 (br_s _ hb56) (Nat.le_of_ble_eq_true rfl) (k_isThere_t hP hb56 h5 d) ?_
    refine r_if_eq 22 dX10_twist_8 (by decide) (fun c8 => ?_) (fun c8 => ?_)
    · exact absurd c8 (by decide)
    · refine r_aload_n dX10_twist_11 rfl ?_
      refine r_getR dX10_twist_12 flX10_42 sh_0 (by decide) rfl (pf_0_7 hP) ?_
      refine r_iload_n dX10_twist_15 rfl ?_
      by_cases h16 : sTh V c
      · refine r_cV1i dX10_twist_16 vlX10_220 (br_s _ hb56) (Nat.le_of_ble_eq_true rfl) (k_isThere_t hP hb56 h16 d) ?_
        refine r_if_ne 24 dX10_twist_19 (by decide) (fun c19 => ?_) (fun c19 => ?_)
        · refine r_iload_n dX10_twist_24 rfl ?_
          refine r_iload_n dX10_twist_25 rfl ?_
          refine r_ic_ne 33 dX10_twist_26 (by decide) (fun c26 => ?_) (fun c26 => ?_)
          · refine r_iconst (v := 0) dX10_twist_33 (by decide) ?_
            refine r_istore_n3 dX10_twist_34 rfl ?_
            refine r_aload_n dX10_twist_35 rfl ?_
            refine r_getR dX10_twist_36 flX10_42 sh_0 (by decide) rfl (pf_0_7 hP) ?_
            refine r_getR dX10_twist_39 flX10_199 (br_s _ hb56) (by decide) rfl (br_p10 hP _ hb56) ?_
            refine r_iload_n dX10_twist_42 rfl ?_
            refine r_ialv dX10_twist_43 (br_a10 _ hb56) h5.in (wB_a _ _ _ (by decide) (by decide) (vlt h5.in)) ?_
            refine r_iload_n dX10_twist_44 rfl ?_
            refine r_if_eq 52 dX10_twist_45 (by decide) (fun c45 => ?_) (fun c45 => ?_)
            · refine r_iload_n dX10_twist_52 rfl ?_
              refine r_ic_ne 58 dX10_twist_53 (by decide) (fun c53 => ?_) (fun c53 => ?_)
              · exact absurd ⟨h5, h16, by first | (rw [if_pos c26]; exact c53) | (rw [if_neg c26]; exact c53)⟩ h
              · refine r_iconst (v := 0) dX10_twist_56 (by decide) ?_
                exact r_iret dX10_twist_57 rfl rfl rfl rfl
            · exact absurd c45 (by decide)
          · refine r_iconst (v := 1) dX10_twist_29 (by decide) ?_
            refine r_goto 34 dX10_twist_30 (by decide) ?_
            refine r_istore_n3 dX10_twist_34 rfl ?_
            refine r_aload_n dX10_twist_35 rfl ?_
            refine r_getR dX10_twist_36 flX10_42 sh_0 (by decide) rfl (pf_0_7 hP) ?_
            refine r_getR dX10_twist_39 flX10_199 (br_s _ hb56) (by decide) rfl (br_p10 hP _ hb56) ?_
            refine r_iload_n dX10_twist_42 rfl ?_
            refine r_ialv dX10_twist_43 (br_a10 _ hb56) h5.in (wB_a _ _ _ (by decide) (by decide) (vlt h5.in)) ?_
            refine r_iload_n dX10_twist_44 rfl ?_
            refine r_if_eq 52 dX10_twist_45 (by decide) (fun c45 => ?_) (fun c45 => ?_)
            · exact absurd c45 (by decide)
            · refine r_iconst (v := (-1)) dX10_twist_48 (by decide) ?_
              refine r_goto 53 dX10_twist_49 (by decide) ?_
              refine r_ic_ne 58 dX10_twist_53 (by decide) (fun c53 => ?_) (fun c53 => ?_)
              · exact absurd ⟨h5, h16, by first | (rw [if_pos c26]; exact c53) | (rw [if_neg c26]; exact c53)⟩ h
              · refine r_iconst (v := 0) dX10_twist_56 (by decide) ?_
                exact r_iret dX10_twist_57 rfl rfl rfl rfl
        · exact absurd c19 (by decide)
      · refine r_cV1i dX10_twist_16 vlX10_220 (br_s _ hb56) (Nat.le_of_ble_eq_true rfl) (k_isThere_f hP hb56 h16 d) ?_
        refine r_if_ne 24 dX10_twist_19 (by decide) (fun c19 => ?_) (fun c19 => ?_)
        · exact absurd c19 (by decide)
        · refine r_iconst (v := 0) dX10_twist_22 (by decide) ?_
          exact r_iret dX10_twist_23 rfl rfl rfl rfl
  · refine r_cV1i dX10_twist_5 vlX10_220 (br_s _ hb56) (Nat.le_of_ble_eq_true rfl) (k_isThere_f hP hb56 h5 d) ?_
    refine r_if_eq 22 dX10_twist_8 (by decide) (fun c8 => ?_) (fun c8 => ?_)
    · refine r_iconst (v := 0) dX10_twist_22 (by decide) ?_
      exact r_iret dX10_twist_23 rfl rfl rfl rfl
    · exact absurd c8 (by decide)
abbrev okX (I : Nat → Nat → Int32) (t : Nat) (p x : Int32) : Prop := isP I t p ∧ ¬ x < 0 ∧ x ≤ 99
theorem isP.in {I : Nat → Nat → Int32} {t n : Nat} {p : Int32} (h : isP I t p) (hn : n ≤ 6) (hp : I t 3 = nI n) : vp_in p 6 := by
  obtain ⟨h0, h1⟩ := h
  rw [hp] at h1
  rw [vp_in_iff]
  simp only [Int32.lt_iff_toInt_lt, Int32.le_iff_toInt_le, Int32.toInt_zero, nI_toInt (n := n) (by omega)] at h0 h1
  omega
set_option maxHeartbeats 1000000 in
theorem k_cross_n {E : xCl} {ex : Bool} {I V : Nat → Nat → Int32} {J : Nat → Nat → Int64} {P : Nat → Nat → Nat} (hP : Pok P) {t : Nat} (ht : t ∈ TL) (hx5 : P 0 5 = t + 1) (hbt : P 56 0 = t + 1) {p x : Int32} (h : ¬ okX I t p x) (d : Nat) : xEx E ex (d + 2) yX10_cross [.ref 0, .int p, .int x] (SH, wB I 56 V, J, P) (some (.int (-1))) (SH, wB I 56 V, J, P) := by
  refine x_enter cqX10_cross [some (.ref 0), some (.int p), some (.int x)] rfl (by simp [lg_sl, Value.category]) ?_
  refine r_aload_n dX10_cross_0 rfl ?_
  refine r_iload_n dX10_cross_1 rfl ?_
  by_cases h2 : isP I t p
  · refine r_cV1i dX10_cross_2 vlX10_137 sh_0 (Nat.le_of_ble_eq_true rfl) (k_isPerson_t hP ht hx5 hbt h2 (d + 0)) ?_
    refine r_if_eq 18 dX10_cross_5 (by decide) (fun c5 => ?_) (fun c5 => ?_)
    · exact absurd c5 (by decide)
    · refine r_iload_n dX10_cross_8 rfl ?_
      refine r_if_lt 18 dX10_cross_9 (by decide) (fun c9 => ?_) (fun c9 => ?_)
      · refine r_iconst (v := (-1)) dX10_cross_18 (by decide) ?_
        exact r_iret dX10_cross_19 rfl rfl rfl rfl
      · refine r_iload_n dX10_cross_12 rfl ?_
        refine r_bipush (v := 99) dX10_cross_13 (by decide) ?_
        refine r_ic_le 20 dX10_cross_15 (by decide) (fun c15 => ?_) (fun c15 => ?_)
        · exact absurd ⟨h2, c9, c15⟩ h
        · refine r_iconst (v := (-1)) dX10_cross_18 (by decide) ?_
          exact r_iret dX10_cross_19 rfl rfl rfl rfl
  · refine r_cV1i dX10_cross_2 vlX10_137 sh_0 (Nat.le_of_ble_eq_true rfl) (k_isPerson_f hP ht hx5 hbt h2 (d + 0)) ?_
    refine r_if_eq 18 dX10_cross_5 (by decide) (fun c5 => ?_) (fun c5 => ?_)
    · refine r_iconst (v := (-1)) dX10_cross_18 (by decide) ?_
      exact r_iret dX10_cross_19 rfl rfl rfl rfl
    · exact absurd c5 (by decide)
set_option maxHeartbeats 1000000 in
theorem k_cross_0 {E : xCl} {ex : Bool} {I V : Nat → Nat → Int32} {J : Nat → Nat → Int64} {P : Nat → Nat → Nat} (hP : Pok P) {t : Nat} (ht : t ∈ TL) (hx5 : P 0 5 = t + 1) (hbt : P 56 0 = t + 1) {np : Nat} (hnp : np ≤ 6) (hp : I t 3 = nI np) {n : Nat} (hv : Vok V n) (hL : Lok I t) {p x : Int32} (h : okX I t p x) (hb : sBr V (Lv I t) n < I (t + 3) p.toNatClampNeg + x) (d : Nat) : ∃ J', xEx E ex (d + 7) yX10_cross [.ref 0, .int p, .int x] (SH, wB I 56 V, J, P) (some (.int 0)) (SH, wB I 56 V, J', P) ∧ Jok J J' t := by
  refine Qj.use (x_enterq (d := d + 6) cqX10_cross [some (.ref 0), some (.int p), some (.int x)] rfl (by simp [lg_sl, Value.category]) ?_)
  refine r_aload_n dX10_cross_0 rfl ?_
  refine r_iload_n dX10_cross_1 rfl ?_
  refine r_cV1i dX10_cross_2 vlX10_137 sh_0 (Nat.le_of_ble_eq_true rfl) (k_isPerson_t hP ht hx5 hbt h.1 (d + 5)) ?_
  refine r_if_eq 18 dX10_cross_5 (by decide) (fun c5 => ?_) (fun c5 => ?_)
  · exact absurd c5 (by decide)
  · refine r_iload_n dX10_cross_8 rfl ?_
    refine r_if_lt 18 dX10_cross_9 (by decide) (fun c9 => ?_) (fun c9 => ?_)
    · exact absurd c9 h.2.1
    · refine r_iload_n dX10_cross_12 rfl ?_
      refine r_bipush (v := 99) dX10_cross_13 (by decide) ?_
      refine r_ic_le 20 dX10_cross_15 (by decide) (fun c15 => ?_) (fun c15 => ?_)
      · refine r_aload_n dX10_cross_20 rfl ?_
        refine r_getR dX10_cross_21 flX10_29 sh_0 (by decide) rfl hx5 ?_
        refine r_getR dX10_cross_24 flX10_151 (tl_s _ ht) (by decide) rfl (tl_p2 hP _ ht) ?_
        refine r_iload_n dX10_cross_27 rfl ?_
        refine r_ialv dX10_cross_28 (tl_a2 _ ht) (h.1.in hnp hp) (wB_t _ hb56 _ ht (by decide) _) ?_
        refine r_iload_n dX10_cross_29 rfl ?_
        refine r_iadd dX10_cross_30 ?_
        refine r_aload_n dX10_cross_31 rfl ?_
        refine r_getR dX10_cross_32 flX10_42 sh_0 (by decide) rfl (pf_0_7 hP) ?_
        obtain ⟨J35, hx35, hj35⟩ := k_bridgeBears (E := E) (ex := ex) (J := J) hP hb56 ht hbt hv hL d
        refine r_cV0i dX10_cross_35 vlX10_239 (br_s _ hb56) (Nat.le_of_ble_eq_true rfl) hx35 ?_
        refine r_ic_le 43 dX10_cross_38 (by decide) (fun c38 => ?_) (fun c38 => ?_)
        · exact absurd c38 (Int32.not_le.mpr hb)
        · refine r_iconst (v := 0) dX10_cross_41 (by decide) ?_
          exact r_iretq dX10_cross_42 rfl rfl (Qj.mk hj35)
      · exact absurd h.2.2 c15
set_option maxHeartbeats 2000000 in
theorem k_cross_1 {E : xCl} {ex : Bool} {I V : Nat → Nat → Int32} {J : Nat → Nat → Int64} {P : Nat → Nat → Nat} (hP : Pok P) {t : Nat} (ht : t ∈ TL) (hx5 : P 0 5 = t + 1) (hbt : P 56 0 = t + 1) {sn cn : Nat} (hsn : sn < 20) (h12 : I 0 12 = nI sn) (hcn : cn ≤ 20) (h13 : I 0 13 = nI cn) {np : Nat} (hnp : np ≤ 6) (hp : I t 3 = nI np) {n : Nat} (hv : Vok V n) (hL : Lok I t) {p x : Int32} (h : okX I t p x) (hb : ¬ sBr V (Lv I t) n < I (t + 3) p.toNatClampNeg + x) (d : Nat) : ∃ J', xEx E ex (d + 7) yX10_cross [.ref 0, .int p, .int x] (SH, wB I 56 V, J, P) (some (.int 1)) (SH, wB (svI I V sn cn) 56 (xu V 2 p.toNatClampNeg (1 - V 2 p.toNatClampNeg)), J', xu P (107 + 12 * sn) 0 (t + 1)) ∧ Jok J J' t := by
  refine Qj.use (x_enterq (d := d + 6) cqX10_cross [some (.ref 0), some (.int p), some (.int x)] rfl (by simp [lg_sl, Value.category]) ?_)
  refine r_aload_n dX10_cross_0 rfl ?_
  refine r_iload_n dX10_cross_1 rfl ?_
  refine r_cV1i dX10_cross_2 vlX10_137 sh_0 (Nat.le_of_ble_eq_true rfl) (k_isPerson_t hP ht hx5 hbt h.1 (d + 5)) ?_
  refine r_if_eq 18 dX10_cross_5 (by decide) (fun c5 => ?_) (fun c5 => ?_)
  · exact absurd c5 (by decide)
  · refine r_iload_n dX10_cross_8 rfl ?_
    refine r_if_lt 18 dX10_cross_9 (by decide) (fun c9 => ?_) (fun c9 => ?_)
    · exact absurd c9 h.2.1
    · refine r_iload_n dX10_cross_12 rfl ?_
      refine r_bipush (v := 99) dX10_cross_13 (by decide) ?_
      refine r_ic_le 20 dX10_cross_15 (by decide) (fun c15 => ?_) (fun c15 => ?_)
      · refine r_aload_n dX10_cross_20 rfl ?_
        refine r_getR dX10_cross_21 flX10_29 sh_0 (by decide) rfl hx5 ?_
        refine r_getR dX10_cross_24 flX10_151 (tl_s _ ht) (by decide) rfl (tl_p2 hP _ ht) ?_
        refine r_iload_n dX10_cross_27 rfl ?_
        refine r_ialv dX10_cross_28 (tl_a2 _ ht) (h.1.in hnp hp) (wB_t _ hb56 _ ht (by decide) _) ?_
        refine r_iload_n dX10_cross_29 rfl ?_
        refine r_iadd dX10_cross_30 ?_
        refine r_aload_n dX10_cross_31 rfl ?_
        refine r_getR dX10_cross_32 flX10_42 sh_0 (by decide) rfl (pf_0_7 hP) ?_
        obtain ⟨J35, hx35, hj35⟩ := k_bridgeBears (E := E) (ex := ex) (J := J) hP hb56 ht hbt hv hL d
        refine r_cV0i dX10_cross_35 vlX10_239 (br_s _ hb56) (Nat.le_of_ble_eq_true rfl) hx35 ?_
        refine r_ic_le 43 dX10_cross_38 (by decide) (fun c38 => ?_) (fun c38 => ?_)
        · refine r_aload_n dX10_cross_43 rfl ?_
          refine r_cV0v dX10_cross_44 vlX10_254 sh_0 (Nat.le_of_ble_eq_true rfl) (k_saveAct (J := J35) hP ht hx5 hbt hsn h12 hcn h13 (d + 4)) ?_
          have hP := hP.xb (sv_b sn hsn) (t + 1); have hbt : xu P (107 + 12 * sn) 0 (t + 1) 56 0 = t + 1 := (xu_f _ _ (by omega)).trans hbt; have hx5 : xu P (107 + 12 * sn) 0 (t + 1) 0 5 = t + 1 := (xu_f _ _ (by omega)).trans hx5
          refine r_aload_n dX10_cross_47 rfl ?_
          refine r_getR dX10_cross_48 flX10_42 sh_0 (by decide) rfl (pf_0_7 hP) ?_
          refine r_getR dX10_cross_51 flX10_157 (br_s _ hb56) (by decide) rfl (br_p2 hP _ hb56) ?_
          refine r_iload_n dX10_cross_54 rfl ?_
          refine r_iconst (v := 1) dX10_cross_55 (by decide) ?_
          refine r_aload_n dX10_cross_56 rfl ?_
          refine r_getR dX10_cross_57 flX10_42 sh_0 (by decide) rfl (pf_0_7 hP) ?_
          refine r_getR dX10_cross_60 flX10_157 (br_s _ hb56) (by decide) rfl (br_p2 hP _ hb56) ?_
          refine r_iload_n dX10_cross_63 rfl ?_
          refine r_ialv dX10_cross_64 (br_a2 _ hb56) (h.1.in hnp hp) (wB_a _ _ _ (by decide) (by decide) (vlt (h.1.in hnp hp))) ?_
          refine r_isub dX10_cross_65 ?_
          refine r_iasv dX10_cross_66 (br_a2 _ hb56) (h.1.in hnp hp) (wB_xa _ _ _ (by decide) (by decide) (vlt (h.1.in hnp hp)) _) ?_
          refine r_iconst (v := 1) dX10_cross_67 (by decide) ?_
          exact r_iretq dX10_cross_68 rfl rfl (Qj.mk hj35)
        · exact absurd (Int32.not_lt.mp hb) c38
      · exact absurd h.2.2 c15
abbrev okY (I : Nat → Nat → Int32) (t n : Nat) (a c w u : Int32) : Prop := isP I t a ∧ isP I t c ∧ ¬ I (t + 2) a.toNatClampNeg = I (t + 2) c.toNatClampNeg ∧ ¬ w < 1 ∧ ¬ 999 < w ∧ ¬ u < 0 ∧ ¬ 99 < u ∧ n < 12
set_option maxHeartbeats 1000000 in
theorem k_tie_n {E : xCl} {ex : Bool} {I V : Nat → Nat → Int32} {J : Nat → Nat → Int64} {P : Nat → Nat → Nat} (hP : Pok P) {t : Nat} (ht : t ∈ TL) (hx5 : P 0 5 = t + 1) (hbt : P 56 0 = t + 1) {np : Nat} (hnp : np ≤ 6) (hp : I t 3 = nI np) {n : Nat} (hv : Vok V n) {a c w u : Int32} (h : ¬ okY I t n a c w u) (d : Nat) : xEx E ex (d + 2) yX10_tie [.ref 0, .int a, .int c, .int w, .int u] (SH, wB I 56 V, J, P) (some (.int (-1))) (SH, wB I 56 V, J, P) := by
  refine x_enter cqX10_tie [some (.ref 0), some (.int a), some (.int c), some (.int w), some (.int u)] rfl (by simp [lg_sl, Value.category]) ?_
  refine r_aload_n dX10_tie_0 rfl ?_
  refine r_iload_n dX10_tie_1 rfl ?_
  by_cases h2 : isP I t a
  · refine r_cV1i dX10_tie_2 vlX10_137 sh_0 (Nat.le_of_ble_eq_true rfl) (k_isPerson_t hP ht hx5 hbt h2 d) ?_
    refine r_if_eq 37 dX10_tie_5 (by decide) (fun c5 => ?_) (fun c5 => ?_)
    · exact absurd c5 (by decide)
    · refine r_aload_n dX10_tie_8 rfl ?_
      refine r_iload_n dX10_tie_9 rfl ?_
      by_cases h10 : isP I t c
      · refine r_cV1i dX10_tie_10 vlX10_137 sh_0 (Nat.le_of_ble_eq_true rfl) (k_isPerson_t hP ht hx5 hbt h10 d) ?_
        refine r_if_eq 37 dX10_tie_13 (by decide) (fun c13 => ?_) (fun c13 => ?_)
        · exact absurd c13 (by decide)
        · refine r_aload_n dX10_tie_16 rfl ?_
          refine r_getR dX10_tie_17 flX10_29 sh_0 (by decide) rfl hx5 ?_
          refine r_getR dX10_tie_20 flX10_154 (tl_s _ ht) (by decide) rfl (tl_p1 hP _ ht) ?_
          refine r_iload_n dX10_tie_23 rfl ?_
          refine r_ialv dX10_tie_24 (tl_a1 _ ht) (h2.in hnp hp) (wB_t _ hb56 _ ht (by decide) _) ?_
          refine r_aload_n dX10_tie_25 rfl ?_
          refine r_getR dX10_tie_26 flX10_29 sh_0 (by decide) rfl hx5 ?_
          refine r_getR dX10_tie_29 flX10_154 (tl_s _ ht) (by decide) rfl (tl_p1 hP _ ht) ?_
          refine r_iload_n dX10_tie_32 rfl ?_
          refine r_ialv dX10_tie_33 (tl_a1 _ ht) (h10.in hnp hp) (wB_t _ hb56 _ ht (by decide) _) ?_
          refine r_ic_ne 39 dX10_tie_34 (by decide) (fun c34 => ?_) (fun c34 => ?_)
          · refine r_iload_n dX10_tie_39 rfl ?_
            refine r_iconst (v := 1) dX10_tie_40 (by decide) ?_
            refine r_ic_lt 75 dX10_tie_41 (by decide) (fun c41 => ?_) (fun c41 => ?_)
            · refine r_iconst (v := (-1)) dX10_tie_75 (by decide) ?_
              exact r_iret dX10_tie_76 rfl rfl rfl rfl
            · refine r_iload_n dX10_tie_44 rfl ?_
              refine r_sipush (v := 999) dX10_tie_45 (by decide) ?_
              refine r_ic_gt 75 dX10_tie_48 (by decide) (fun c48 => ?_) (fun c48 => ?_)
              · refine r_iconst (v := (-1)) dX10_tie_75 (by decide) ?_
                exact r_iret dX10_tie_76 rfl rfl rfl rfl
              · refine r_iload dX10_tie_51 rfl ?_
                refine r_if_lt 75 dX10_tie_53 (by decide) (fun c53 => ?_) (fun c53 => ?_)
                · refine r_iconst (v := (-1)) dX10_tie_75 (by decide) ?_
                  exact r_iret dX10_tie_76 rfl rfl rfl rfl
                · refine r_iload dX10_tie_56 rfl ?_
                  refine r_bipush (v := 99) dX10_tie_58 (by decide) ?_
                  refine r_ic_gt 75 dX10_tie_60 (by decide) (fun c60 => ?_) (fun c60 => ?_)
                  · refine r_iconst (v := (-1)) dX10_tie_75 (by decide) ?_
                    exact r_iret dX10_tie_76 rfl rfl rfl rfl
                  · refine r_aload_n dX10_tie_63 rfl ?_
                    refine r_getR dX10_tie_64 flX10_42 sh_0 (by decide) rfl (pf_0_7 hP) ?_
                    refine r_getIv dX10_tie_67 flX10_251 (br_s _ hb56) (by decide) rfl ((wB_i _ _ _ (by decide)).trans hv.2.1) ?_
                    refine r_bipush (v := 12) dX10_tie_70 (by decide) ?_
                    refine r_ic_lt 77 dX10_tie_72 (by decide) (fun c72 => ?_) (fun c72 => ?_)
                    · exact absurd ⟨h2, h10, c34, c41, c48, c53, c60, Classical.byContradiction (fun z => absurd c72 (nI_nlt (a := n) (b := 12) (by omega) (by have := hv.1; omega)))⟩ h
                    · refine r_iconst (v := (-1)) dX10_tie_75 (by decide) ?_
                      exact r_iret dX10_tie_76 rfl rfl rfl rfl
          · refine r_iconst (v := (-1)) dX10_tie_37 (by decide) ?_
            exact r_iret dX10_tie_38 rfl rfl rfl rfl
      · refine r_cV1i dX10_tie_10 vlX10_137 sh_0 (Nat.le_of_ble_eq_true rfl) (k_isPerson_f hP ht hx5 hbt h10 d) ?_
        refine r_if_eq 37 dX10_tie_13 (by decide) (fun c13 => ?_) (fun c13 => ?_)
        · refine r_iconst (v := (-1)) dX10_tie_37 (by decide) ?_
          exact r_iret dX10_tie_38 rfl rfl rfl rfl
        · exact absurd c13 (by decide)
  · refine r_cV1i dX10_tie_2 vlX10_137 sh_0 (Nat.le_of_ble_eq_true rfl) (k_isPerson_f hP ht hx5 hbt h2 d) ?_
    refine r_if_eq 37 dX10_tie_5 (by decide) (fun c5 => ?_) (fun c5 => ?_)
    · refine r_iconst (v := (-1)) dX10_tie_37 (by decide) ?_
      exact r_iret dX10_tie_38 rfl rfl rfl rfl
    · exact absurd c5 (by decide)
set_option maxHeartbeats 1000000 in
theorem k_tie_t {E : xCl} {ex : Bool} {I V : Nat → Nat → Int32} {J : Nat → Nat → Int64} {P : Nat → Nat → Nat} (hP : Pok P) {t : Nat} (ht : t ∈ TL) (hx5 : P 0 5 = t + 1) (hbt : P 56 0 = t + 1) {sn cn : Nat} (hsn : sn < 20) (h12 : I 0 12 = nI sn) (hcn : cn ≤ 20) (h13 : I 0 13 = nI cn) {np : Nat} (hnp : np ≤ 6) (hp : I t 3 = nI np) {n : Nat} (hv : Vok V n) {a c w u : Int32} (h : okY I t n a c w u) (d : Nat) : xEx E ex (d + 3) yX10_tie [.ref 0, .int a, .int c, .int w, .int u] (SH, wB I 56 V, J, P) (some (.int (nI n))) (SH, wB (svI I V sn cn) 56 (sAdd V n a c w 0 u), J, xu P (107 + 12 * sn) 0 (t + 1)) := by
  refine x_enter cqX10_tie [some (.ref 0), some (.int a), some (.int c), some (.int w), some (.int u)] rfl (by simp [lg_sl, Value.category]) ?_
  refine r_aload_n dX10_tie_0 rfl ?_
  refine r_iload_n dX10_tie_1 rfl ?_
  refine r_cV1i dX10_tie_2 vlX10_137 sh_0 (Nat.le_of_ble_eq_true rfl) (k_isPerson_t hP ht hx5 hbt h.1 (d + 1)) ?_
  refine r_if_eq 37 dX10_tie_5 (by decide) (fun c5 => ?_) (fun c5 => ?_)
  · exact absurd c5 (by decide)
  · refine r_aload_n dX10_tie_8 rfl ?_
    refine r_iload_n dX10_tie_9 rfl ?_
    refine r_cV1i dX10_tie_10 vlX10_137 sh_0 (Nat.le_of_ble_eq_true rfl) (k_isPerson_t hP ht hx5 hbt h.2.1 (d + 1)) ?_
    refine r_if_eq 37 dX10_tie_13 (by decide) (fun c13 => ?_) (fun c13 => ?_)
    · exact absurd c13 (by decide)
    · refine r_aload_n dX10_tie_16 rfl ?_
      refine r_getR dX10_tie_17 flX10_29 sh_0 (by decide) rfl hx5 ?_
      refine r_getR dX10_tie_20 flX10_154 (tl_s _ ht) (by decide) rfl (tl_p1 hP _ ht) ?_
      refine r_iload_n dX10_tie_23 rfl ?_
      refine r_ialv dX10_tie_24 (tl_a1 _ ht) (h.1.in hnp hp) (wB_t _ hb56 _ ht (by decide) _) ?_
      refine r_aload_n dX10_tie_25 rfl ?_
      refine r_getR dX10_tie_26 flX10_29 sh_0 (by decide) rfl hx5 ?_
      refine r_getR dX10_tie_29 flX10_154 (tl_s _ ht) (by decide) rfl (tl_p1 hP _ ht) ?_
      refine r_iload_n dX10_tie_32 rfl ?_
      refine r_ialv dX10_tie_33 (tl_a1 _ ht) (h.2.1.in hnp hp) (wB_t _ hb56 _ ht (by decide) _) ?_
      refine r_ic_ne 39 dX10_tie_34 (by decide) (fun c34 => ?_) (fun c34 => ?_)
      · refine r_iload_n dX10_tie_39 rfl ?_
        refine r_iconst (v := 1) dX10_tie_40 (by decide) ?_
        refine r_ic_lt 75 dX10_tie_41 (by decide) (fun c41 => ?_) (fun c41 => ?_)
        · exact absurd c41 h.2.2.2.1
        · refine r_iload_n dX10_tie_44 rfl ?_
          refine r_sipush (v := 999) dX10_tie_45 (by decide) ?_
          refine r_ic_gt 75 dX10_tie_48 (by decide) (fun c48 => ?_) (fun c48 => ?_)
          · exact absurd c48 h.2.2.2.2.1
          · refine r_iload dX10_tie_51 rfl ?_
            refine r_if_lt 75 dX10_tie_53 (by decide) (fun c53 => ?_) (fun c53 => ?_)
            · exact absurd c53 h.2.2.2.2.2.1
            · refine r_iload dX10_tie_56 rfl ?_
              refine r_bipush (v := 99) dX10_tie_58 (by decide) ?_
              refine r_ic_gt 75 dX10_tie_60 (by decide) (fun c60 => ?_) (fun c60 => ?_)
              · exact absurd c60 h.2.2.2.2.2.2.1
              · refine r_aload_n dX10_tie_63 rfl ?_
                refine r_getR dX10_tie_64 flX10_42 sh_0 (by decide) rfl (pf_0_7 hP) ?_
                refine r_getIv dX10_tie_67 flX10_251 (br_s _ hb56) (by decide) rfl ((wB_i _ _ _ (by decide)).trans hv.2.1) ?_
                refine r_bipush (v := 12) dX10_tie_70 (by decide) ?_
                refine r_ic_lt 77 dX10_tie_72 (by decide) (fun c72 => ?_) (fun c72 => ?_)
                · refine r_aload_n dX10_tie_77 rfl ?_
                  refine r_cV0v dX10_tie_78 vlX10_254 sh_0 (Nat.le_of_ble_eq_true rfl) (k_saveAct hP ht hx5 hbt hsn h12 hcn h13 d) ?_
                  have hP := hP.xb (sv_b sn hsn) (t + 1); have hbt : xu P (107 + 12 * sn) 0 (t + 1) 56 0 = t + 1 := (xu_f _ _ (by omega)).trans hbt; have hx5 : xu P (107 + 12 * sn) 0 (t + 1) 0 5 = t + 1 := (xu_f _ _ (by omega)).trans hx5
                  refine r_aload_n dX10_tie_81 rfl ?_
                  refine r_getR dX10_tie_82 flX10_42 sh_0 (by decide) rfl (pf_0_7 hP) ?_
                  refine r_iload_n dX10_tie_85 rfl ?_
                  refine r_iload_n dX10_tie_86 rfl ?_
                  refine r_iload_n dX10_tie_87 rfl ?_
                  refine r_iconst (v := 0) dX10_tie_88 (by decide) ?_
                  refine r_iload dX10_tie_89 rfl ?_
                  refine r_cV5v dX10_tie_91 vlX10_257 (br_s _ hb56) (Nat.le_of_ble_eq_true rfl) (k_addStrand hP hb56 hv h.2.2.2.2.2.2.2 a c w 0 u (d + 1)) ?_
                  refine r_aload_n dX10_tie_94 rfl ?_
                  refine r_getR dX10_tie_95 flX10_42 sh_0 (by decide) rfl (pf_0_7 hP) ?_
                  refine r_getIv dX10_tie_98 flX10_251 (br_s _ hb56) (by decide) rfl (v := nI (n + 1)) ((wB_i _ _ _ (by decide)).trans (xu_s _ _ _ _)) ?_
                  refine r_iconst (v := 1) dX10_tie_101 (by decide) ?_
                  refine r_isub dX10_tie_102 ?_
                  exact r_iret dX10_tie_103 rfl rfl (by rw [nI_pred]) rfl
                · exact absurd (nI_lt (a := n) (b := 12) h.2.2.2.2.2.2.2 (by omega)) c72
      · exact absurd c34 h.2.2.1
def pv (sn : Nat) : Nat := (sn + 19) % 20
theorem pv_lt (sn : Nat) : pv sn < 20 := Nat.mod_lt _ (by decide)
theorem pv_rem (sn : Nat) (h : sn < 1000) : nI sn + 20 - 1 - (nI sn + 20 - 1) / 20 * 20 = nI (pv sn) := by
  rw [show (20 : Int32) = nI 20 from rfl, nI_add, show sn + 20 = (sn + 19) + 1 from rfl, nI_pred, pk_rem (by omega) (by omega) (by omega)]; rfl
set_option maxHeartbeats 1000000 in
theorem k_undo_n {E : xCl} {ex : Bool} {I V : Nat → Nat → Int32} {J : Nat → Nat → Int64} {P : Nat → Nat → Nat} (h13 : I 0 13 = 0) (d : Nat) : xEx E ex (d + 1) yX10_undo [.ref 0] (SH, wB I 56 V, J, P) (some (.int (-1))) (SH, wB I 56 V, J, P) := by
  refine x_enter cqX10_undo [some (.ref 0)] rfl (by simp [lg_sl, Value.category]) ?_
  refine r_aload_n dX10_undo_0 rfl ?_
  refine r_getIv dX10_undo_1 flX10_400 sh_0 (by decide) rfl ((wB_o _ _ _ (br_x _ hb56 0 (by decide)) _).trans h13) ?_
  refine r_if_ne 9 dX10_undo_4 (by decide) (fun c4 => ?_) (fun c4 => ?_)
  · exact absurd rfl c4
  · refine r_iconst (v := (-1)) dX10_undo_7 (by decide) ?_
    exact r_iret dX10_undo_8 rfl rfl rfl rfl
def unI (I : Nat → Nat → Int32) (sn cn : Nat) : Nat → Nat → Int32 := xu (xu I 0 12 (nI (pv sn))) 0 13 (nI cn)
theorem vB_xu0 {I : Nat → Nat → Int32} {q k : Nat} {v : Int32} (hq : q ∈ BR) : vB (xu I 0 k v) q = vB I q := by
  have h0 := br_x q hq 0 (by decide)
  funext f j
  simp only [vB, xu]
  split
  · rw [if_neg (by omega)]
  · rw [if_neg (by omega)]
set_option maxHeartbeats 1000000 in
theorem k_undo {E : xCl} {ex : Bool} {I V : Nat → Nat → Int32} {J : Nat → Nat → Int64} {P : Nat → Nat → Nat} (hP : Pok P) {t : Nat} (ht : t ∈ TL) (hx5 : P 0 5 = t + 1) (hbt : P 56 0 = t + 1) {sn cn : Nat} (hsn : sn < 20) (h12 : I 0 12 = nI sn) (hcn : cn + 1 ≤ 20) (h13 : I 0 13 = nI (cn + 1)) (hqt : P (107 + 12 * pv sn) 0 = t + 1) (d : Nat) : xEx E ex (d + 2) yX10_undo [.ref 0] (SH, wB I 56 V, J, P) (some (.int (nI cn))) (SH, wB (unI I sn cn) 56 (vB I (107 + 12 * pv sn)), J, P) := by
  refine x_enter cqX10_undo [some (.ref 0)] rfl (by simp [lg_sl, Value.category]) ?_
  refine r_aload_n dX10_undo_0 rfl ?_
  refine r_getIv dX10_undo_1 flX10_400 sh_0 (by decide) rfl ((wB_o _ _ _ (br_x _ hb56 0 (by decide)) _).trans h13) ?_
  refine r_if_ne 9 dX10_undo_4 (by decide) (fun c4 => ?_) (fun c4 => ?_)
  · refine r_aload_n dX10_undo_9 rfl ?_
    refine r_aload_n dX10_undo_10 rfl ?_
    refine r_getIv dX10_undo_11 flX10_397 sh_0 (by decide) rfl ((wB_o _ _ _ (br_x _ hb56 0 (by decide)) _).trans h12) ?_
    refine r_bipush (v := 20) dX10_undo_14 (by decide) ?_
    refine r_iadd dX10_undo_16 ?_
    refine r_iconst (v := 1) dX10_undo_17 (by decide) ?_
    refine r_isub dX10_undo_18 ?_
    refine r_bipush (v := 20) dX10_undo_19 (by decide) ?_
    refine r_irem dX10_undo_21 (by decide) ?_
    refine r_putIv dX10_undo_22 flX10_397 ⟨_, _, _, rfl, Or.inl rfl⟩ sh_0 (by decide) rfl rfl rfl (wB_xo _ _ (br_x _ hb56 0 (by decide)) _ _) ?_
    refine r_aload_n dX10_undo_25 rfl ?_
    refine r_getR dX10_undo_26 flX10_42 sh_0 (by decide) rfl (pf_0_7 hP) ?_
    refine r_aload_n dX10_undo_29 rfl ?_
    refine r_getR dX10_undo_30 flX10_51 sh_0 (by decide) rfl (pf_0_11 hP) ?_
    refine r_aload_n dX10_undo_33 rfl ?_
    refine r_getIv dX10_undo_34 flX10_397 sh_0 (by decide) rfl (v := nI (pv sn)) (by rw [wB_o _ _ _ (br_x _ hb56 0 (by decide))]; exact (xu_s _ _ _ _).trans (pv_rem sn (by omega))) ?_
    refine r_aal dX10_undo_37 sh_92 (in20 (pv_lt sn)) (sv_p hP (pv_lt sn)) ?_
    refine r_cV1v dX10_undo_38 vlX10_119 (br_s _ hb56) (Nat.le_of_ble_eq_true rfl) (k_becomeB hP ht hbt (sv_b _ (pv_lt sn)) (by omega) hqt d) ?_
    refine r_aload_n dX10_undo_41 rfl ?_
    refine r_dup dX10_undo_42 rfl ?_
    refine r_getIv dX10_undo_43 flX10_400 sh_0 (by decide) rfl (v := nI (cn + 1)) (by rw [wB_o _ _ _ (br_x _ hb56 0 (by decide))]; exact (show xu I 0 12 _ 0 13 = I 0 13 from by simp [xu]).trans h13) ?_
    refine r_iconst (v := 1) dX10_undo_46 (by decide) ?_
    refine r_isub dX10_undo_47 ?_
    refine r_putIv dX10_undo_48 flX10_400 ⟨_, _, _, rfl, Or.inl rfl⟩ sh_0 (by decide) rfl rfl rfl (wB_xo _ _ (br_x _ hb56 0 (by decide)) _ _) ?_
    refine r_aload_n dX10_undo_51 rfl ?_
    refine r_getIv dX10_undo_52 flX10_400 sh_0 (by decide) rfl (v := nI cn) (by rw [wB_o _ _ _ (br_x _ hb56 0 (by decide))]; exact (xu_s _ _ _ _).trans (nI_pred cn)) ?_
    exact r_iret dX10_undo_55 rfl rfl rfl (by rw [unI, vB_xu0 (sv_b _ (pv_lt sn)), ← pv_rem sn (by omega), nI_pred])
  · exact absurd c4 (nI_ne0 (by omega) (by omega))
set_option maxHeartbeats 1000000 in
theorem k_keep {E : xCl} {ex : Bool} {I V : Nat → Nat → Int32} {J : Nat → Nat → Int64} {P : Nat → Nat → Nat} (hP : Pok P) {t : Nat} (ht : t ∈ TL) (hx5 : P 0 5 = t + 1) (hbt : P 56 0 = t + 1) (d : Nat) : xEx E ex (d + 2) yX10_keep [.ref 0] (SH, wB I 56 V, J, P) (some (.int (V 15 0))) (SH, wB (xu (wB I 68 V) 0 9 1) 56 V, J, xu P 68 0 (t + 1)) := by
  refine x_enter cqX10_keep [some (.ref 0)] rfl (by simp [lg_sl, Value.category]) ?_
  refine r_aload_n dX10_keep_0 rfl ?_
  refine r_getR dX10_keep_1 flX10_45 sh_0 (by decide) rfl (pf_0_8 hP) ?_
  refine r_aload_n dX10_keep_4 rfl ?_
  refine r_getR dX10_keep_5 flX10_42 sh_0 (by decide) rfl (pf_0_7 hP) ?_
  refine r_cV1v dX10_keep_8 vlX10_119 (br_s _ hb68) (Nat.le_of_ble_eq_true rfl) (k_becomeN hP ht hbt hb68 (by decide) d) ?_
  have hP := hP.xb hb68 (t + 1)
  refine r_aload_n dX10_keep_11 rfl ?_
  refine r_iconst (v := 1) dX10_keep_12 (by decide) ?_
  refine r_putIv dX10_keep_13 flX10_123 ⟨_, _, _, rfl, Or.inl rfl⟩ sh_0 (by decide) rfl rfl rfl (wB_xo _ _ (br_x _ hb56 0 (by decide)) _ _) ?_
  refine r_aload_n dX10_keep_16 rfl ?_
  refine r_getR dX10_keep_17 flX10_42 sh_0 (by decide) rfl (pf_0_7 hP) ?_
  refine r_getIv dX10_keep_20 flX10_273 (br_s _ hb56) (by decide) rfl (wB_i _ _ _ (by decide)) ?_
  exact r_iret dX10_keep_23 rfl rfl rfl rfl
set_option maxHeartbeats 1000000 in
theorem k_back_n {E : xCl} {ex : Bool} {I V : Nat → Nat → Int32} {J : Nat → Nat → Int64} {P : Nat → Nat → Nat} (h9 : I 0 9 = 0) (d : Nat) : xEx E ex (d + 1) yX10_back [.ref 0] (SH, wB I 56 V, J, P) (some (.int (-1))) (SH, wB I 56 V, J, P) := by
  refine x_enter cqX10_back [some (.ref 0)] rfl (by simp [lg_sl, Value.category]) ?_
  refine r_aload_n dX10_back_0 rfl ?_
  refine r_getIv dX10_back_1 flX10_123 sh_0 (by decide) rfl ((wB_o _ _ _ (br_x _ hb56 0 (by decide)) _).trans h9) ?_
  refine r_if_ne 9 dX10_back_4 (by decide) (fun c4 => ?_) (fun c4 => ?_)
  · exact absurd rfl c4
  · refine r_iconst (v := (-1)) dX10_back_7 (by decide) ?_
    exact r_iret dX10_back_8 rfl rfl rfl rfl
set_option maxHeartbeats 1000000 in
theorem k_back {E : xCl} {ex : Bool} {I V : Nat → Nat → Int32} {J : Nat → Nat → Int64} {P : Nat → Nat → Nat} (hP : Pok P) {t : Nat} (ht : t ∈ TL) (hx5 : P 0 5 = t + 1) (hbt : P 56 0 = t + 1) (h9 : I 0 9 = 1) (hqt : P 68 0 = t + 1) (d : Nat) : xEx E ex (d + 2) yX10_back [.ref 0] (SH, wB I 56 V, J, P) (some (.int (vB I 68 15 0))) (SH, wB (xu I 0 13 0) 56 (vB I 68), J, P) := by
  refine x_enter cqX10_back [some (.ref 0)] rfl (by simp [lg_sl, Value.category]) ?_
  refine r_aload_n dX10_back_0 rfl ?_
  refine r_getIv dX10_back_1 flX10_123 sh_0 (by decide) rfl ((wB_o _ _ _ (br_x _ hb56 0 (by decide)) _).trans h9) ?_
  refine r_if_ne 9 dX10_back_4 (by decide) (fun c4 => ?_) (fun c4 => ?_)
  · refine r_aload_n dX10_back_9 rfl ?_
    refine r_getR dX10_back_10 flX10_42 sh_0 (by decide) rfl (pf_0_7 hP) ?_
    refine r_aload_n dX10_back_13 rfl ?_
    refine r_getR dX10_back_14 flX10_45 sh_0 (by decide) rfl (pf_0_8 hP) ?_
    refine r_cV1v dX10_back_17 vlX10_119 (br_s _ hb56) (Nat.le_of_ble_eq_true rfl) (k_becomeB hP ht hbt hb68 (by decide) hqt d) ?_
    refine r_aload_n dX10_back_20 rfl ?_
    refine r_cV0v dX10_back_21 vlX10_127 sh_0 (Nat.le_of_ble_eq_true rfl) (k_forgetActs d) ?_
    refine r_aload_n dX10_back_24 rfl ?_
    refine r_getR dX10_back_25 flX10_42 sh_0 (by decide) rfl (pf_0_7 hP) ?_
    refine r_getIv dX10_back_28 flX10_273 (br_s _ hb56) (by decide) rfl (wB_i _ _ _ (by decide)) ?_
    exact r_iret dX10_back_31 rfl rfl rfl rfl
  · exact absurd c4 (by decide)
