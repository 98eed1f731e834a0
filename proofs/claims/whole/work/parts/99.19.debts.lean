/-! lines of both sides: a debt whole -/
set_option maxHeartbeats 8000000 in
theorem debt_R {s i p np nd nc q ln : Nat} {K M : Nat → Nat → Int32} (h : Rl s i p np nd nc q ln K M) (hk0 : ¬ K 28 4 = 38) : ∃ r K' r' M', cRun false 5 yX7_debtLine (fun _ => [.ref 2]) K r K' ∧ rRun 4 yX11_debtLine [.ref 347] M r' M' ∧ Qe M (fun K' M' => ∃ i' p' np' nd' nc' q', p < p' ∧ Rl s i' p' np' nd' nc' q' ln K' M') r K' r' M' := by
  have h' := h
  obtain ⟨gt, gf, gp, gd, gx, go, gw, gb⟩ := h'
  have hpi : p < i := gt.2.2.2.1 hk0
  have n10 := gd.1
  have n6 := gp.1
  refine JG.run (h := 4) (h2 := 3) cqX7_debtLine cqX11_debtLine (ls := [some (.ref 2), none, none, none, none]) (ls2 := [some (.ref 347), none, none]) rfl (by simp [lg_sl, Value.category]) rfl (by simp [lg_sl, Value.category]) ?_
  by_cases c0 : nd = 10
  · refine JG.fin (r := some (.int 0)) (r' := some (.int 0)) ?_ ?_ (Qe.bad gt (LF.rf M) gb 2)
    · intro E ex t I J P n hn ht hE hq
      refine r_aload_n dX7_debtLine_0 rfl ?_
      refine r_aload_n dX7_debtLine_1 rfl ?_
      refine r_getR dX7_debtLine_2 flX7_23 sh_2 (by decide) rfl (pf_2_3 hq.1) ?_
      refine r_getIv dX7_debtLine_5 flX7_133 sh_16 (by decide) rfl (uC_cv ht (by decide) gd.2.1) ?_
      refine r_bipush (v := 10) dX7_debtLine_8 (by decide) ?_
      refine r_cV2i dX7_debtLine_10 vlX7_111 sh_2 (Nat.le_of_ble_eq_true rfl) (opn_f (by rw [c0]; decide) E ex t I J P n (by omega) ht hE hq) ?_
      refine r_if_eq 23 dX7_debtLine_13 (by decide) (fun c13 => ?_) (fun c13 => ?_)
      · refine r_iconst (v := 0) dX7_debtLine_23 (by decide) ?_
        exact r_iret dX7_debtLine_24 rfl rfl rfl rfl
      · exact absurd c13 (by decide)
    · intro E ex I J P n hn hP
      refine r_aload_n dX11_debtLine_0 rfl ?_
      refine r_getIv dX11_debtLine_1 flX11_258 sh_347 (by decide) rfl (uR_v (by decide) gd.2.2.2.1) ?_
      refine r_bipush (v := 10) dX11_debtLine_4 (by decide) ?_
      refine r_ic_ne 15 dX11_debtLine_6 (by decide) (fun c6 => ?_) (fun c6 => ?_)
      · exact absurd (by rw [c0]; decide) c6
      · refine r_aload_n dX11_debtLine_9 rfl ?_
        refine r_iconst (v := 2) dX11_debtLine_10 (by decide) ?_
        refine r_cV1i dX11_debtLine_11 vlX11_235 sh_347 (Nat.le_of_ble_eq_true rfl) (wrong_r 2 E ex I J P n (by omega) hP) ?_
        exact r_iret dX11_debtLine_14 rfl rfl rfl rfl
  obtain ⟨i1, p1, K1, M1, a1, a2, a3, a4, a5⟩ := adv_R gt
  have hb1 : jB K1 := gb.c (fun a k z => a3.1 a k (by omega))
  have hf1 : jF K1 M1 := gf.c (fun a k z => a3.1 a k (by omega)) (fun a k z => a3.2 a k (by omega))
  have hp1 : jP np K1 M1 := gp.c (fun a k z => a3.1 a k (by omega)) (fun a k z => a3.2 a k (by omega))
  have nd2 : M1 347 17 = nI nd := (a3.2 347 17 (by decide)).trans gd.2.2.2.1
  apply JG.ca (pc2 := 16)
  · intro r K' hk E ex t I J P n hn ht hE hq
    refine r_aload_n dX7_debtLine_0 rfl ?_
    refine r_aload_n dX7_debtLine_1 rfl ?_
    refine r_getR dX7_debtLine_2 flX7_23 sh_2 (by decide) rfl (pf_2_3 hq.1) ?_
    refine r_getIv dX7_debtLine_5 flX7_133 sh_16 (by decide) rfl (uC_cv ht (by decide) gd.2.1) ?_
    refine r_bipush (v := 10) dX7_debtLine_8 (by decide) ?_
    refine r_cV2i dX7_debtLine_10 vlX7_111 sh_2 (Nat.le_of_ble_eq_true rfl) (opn_t (nI_lt (a := nd) (b := 10) (by omega) (by decide)) a4 E ex t I J P n (by omega) ht hE hq) ?_
    refine r_if_eq 23 dX7_debtLine_13 (by decide) (fun c13 => ?_) (fun c13 => ?_)
    · exact absurd c13 (by decide)
    · exact hk E ex t I J P n hn ht hE hq
  apply JG.rb (pc2 := 27)
  · intro r K' hk E ex I J P n hn hP
    refine r_aload_n dX11_debtLine_0 rfl ?_
    refine r_getIv dX11_debtLine_1 flX11_258 sh_347 (by decide) rfl (uR_v (by decide) gd.2.2.2.1) ?_
    refine r_bipush (v := 10) dX11_debtLine_4 (by decide) ?_
    refine r_ic_ne 15 dX11_debtLine_6 (by decide) (fun c6 => ?_) (fun c6 => ?_)
    · refine r_aload_n dX11_debtLine_15 rfl ?_
      refine r_cV0v dX11_debtLine_16 vlX11_245 sh_347 (Nat.le_of_ble_eq_true rfl) (a5 E ex I J P n (by omega) hP) ?_
      refine r_bipush (v := 10) dX11_debtLine_19 (by decide) ?_
      refine r_aload_n dX11_debtLine_21 rfl ?_
      refine r_getIv dX11_debtLine_22 flX11_258 sh_347 (by decide) rfl (uR_v (by decide) nd2) ?_
      refine r_iadd dX11_debtLine_25 ?_
      rw [show (10 : Int32) + nI nd = nI (10 + nd) from nI_add 10 nd]
      refine r_istore_n1 dX11_debtLine_26 rfl ?_
      exact hk E ex I J P n hn hP
    · exact absurd ((nI_eq (a := nd) (b := 10) (by omega) (by decide)).mp c6) c0
  rcases per_R a2 hp1 hf1 with ⟨K2, M2, b1, b2, b3, b4⟩ | ⟨j1, i2, p2, K2, M2, b0, b1, b2, b3, b4, b5, b6, b7, b8⟩
  · refine JG.fin (r := some (.int 0)) (r' := some (.int 0)) ?_ ?_ (Qe.m0 (a3.lf.tr b4.lf) b3 (b4.gb hb1))
    · intro E ex t I J P n hn ht hE hq
      refine r_aload_n dX7_debtLine_16 rfl ?_
      refine r_cV0i dX7_debtLine_17 vlX7_136 sh_2 (Nat.le_of_ble_eq_true rfl) (b1 E ex t I J P n (by omega) ht hE hq) ?_
      refine r_if_ne 25 dX7_debtLine_20 (by decide) (fun c20 => ?_) (fun c20 => ?_)
      · exact absurd c20 (by decide)
      · refine r_iconst (v := 0) dX7_debtLine_23 (by decide) ?_
        exact r_iret dX7_debtLine_24 rfl rfl rfl rfl
    · intro E ex I J P n hn hP
      refine r_aload_n dX11_debtLine_27 rfl ?_
      refine r_cV0i dX11_debtLine_28 vlX11_296 sh_347 (Nat.le_of_ble_eq_true rfl) (b2 E ex I J P n (by omega) hP) ?_
      refine r_if_ne 36 dX11_debtLine_31 (by decide) (fun c31 => ?_) (fun c31 => ?_)
      · exact absurd c31 (by decide)
      · refine r_iconst (v := 0) dX11_debtLine_34 (by decide) ?_
        exact r_iret dX11_debtLine_35 rfl rfl rfl rfl
  apply JG.ca (pc2 := 37)
  · intro r K' hk E ex t I J P n hn ht hE hq
    refine r_aload_n dX7_debtLine_16 rfl ?_
    refine r_cV0i dX7_debtLine_17 vlX7_136 sh_2 (Nat.le_of_ble_eq_true rfl) (b2 E ex t I J P n (by omega) ht hE hq) ?_
    refine r_if_ne 25 dX7_debtLine_20 (by decide) (fun c20 => ?_) (fun c20 => ?_)
    · refine r_aload_n dX7_debtLine_25 rfl ?_
      refine r_getIv dX7_debtLine_26 flX7_105 sh_2 (by decide) rfl (uC_cv ht (by decide) (xu_s _ _ _ _)) ?_
      refine r_istore_n1 dX7_debtLine_29 rfl ?_
      refine r_aload_n dX7_debtLine_30 rfl ?_
      refine r_getR dX7_debtLine_31 flX7_32 sh_2 (by decide) rfl (pf_2_0 hq.1) ?_
      refine r_cV0v dX7_debtLine_34 vlX7_99 sh_28 (Nat.le_of_ble_eq_true rfl) (b3 E ex t I J P n (by omega) ht hE hq) ?_
      exact hk E ex t I J P n hn ht hE hq
    · exact absurd c20 (by decide)
  apply JG.rb (pc2 := 51)
  · intro r K' hk E ex I J P n hn hP
    refine r_aload_n dX11_debtLine_27 rfl ?_
    refine r_cV0i dX11_debtLine_28 vlX11_296 sh_347 (Nat.le_of_ble_eq_true rfl) (b4 E ex I J P n (by omega) hP) ?_
    refine r_if_ne 36 dX11_debtLine_31 (by decide) (fun c31 => ?_) (fun c31 => ?_)
    · refine r_aload_n dX11_debtLine_36 rfl ?_
      refine r_getR dX11_debtLine_37 flX11_39 sh_347 (by decide) rfl (pf_347_26 hP) ?_
      refine r_iload_n dX11_debtLine_40 rfl ?_
      refine r_aload_n dX11_debtLine_41 rfl ?_
      refine r_getIv dX11_debtLine_42 flX11_242 sh_347 (by decide) rfl (uR_v (by decide) b8) ?_
      refine r_iasv dX11_debtLine_45 sh_356 (vp_in_nI (n := 10 + nd) (by omega) (by decide)) ((congrArg (fun z => xu _ _ z _) (nI_clamp (n := 10 + nd) (by omega))).trans (uR_x (by decide) _ _)) ?_
      refine r_aload_n dX11_debtLine_46 rfl ?_
      refine r_getIv dX11_debtLine_47 flX11_202 sh_347 (by decide) rfl (uR_r (by decide) _) ?_
      refine r_istore_n2 dX11_debtLine_50 rfl ?_
      exact hk E ex I J P n hn hP
    · exact absurd c31 (by decide)
  have t2 : jT s i2 p2 K2 (xu M2 356 (10 + nd) (nI j1)) := b5.c (fun a k z => rfl) (fun a k z => xu_ne (by omega))
  have hf2 : jF K2 (xu M2 356 (10 + nd) (nI j1)) := hf1.c (fun a k z => b6.1 a k (by omega)) (fun a k z => (xu_ne (by omega)).trans (b6.2 a k (by omega)))
  have hp2 : jP np K2 (xu M2 356 (10 + nd) (nI j1)) := hp1.c (fun a k z => b6.1 a k (by omega)) (fun a k z => (xu_ne (by omega)).trans (b6.2 a k (by omega)))
  have hb2 : jB K2 := b6.n.gb hb1
  have hl2 : LF M (xu M2 356 (10 + nd) (nI j1)) := (a3.lf.tr b6.n.lf).y6 (by omega) (vp_in_nI (n := j1) (by omega) (by decide))
  rcases per_R t2 hp2 hf2 with ⟨K3, M3, d1, d2, d3, d4⟩ | ⟨j2, i3, p3, K3, M3, d0, d1, d2, d3, d4, d5, d6, d7, d8⟩
  · refine JG.fin (r := some (.int 0)) (r' := some (.int 0)) ?_ ?_ (Qe.m0 (hl2.tr d4.lf) d3 (d4.gb hb2))
    · intro E ex t I J P n hn ht hE hq
      refine r_aload_n dX7_debtLine_37 rfl ?_
      refine r_cV0i dX7_debtLine_38 vlX7_136 sh_2 (Nat.le_of_ble_eq_true rfl) (d1 E ex t I J P n (by omega) ht hE hq) ?_
      refine r_if_ne 46 dX7_debtLine_41 (by decide) (fun c41 => ?_) (fun c41 => ?_)
      · exact absurd c41 (by decide)
      · refine r_iconst (v := 0) dX7_debtLine_44 (by decide) ?_
        exact r_iret dX7_debtLine_45 rfl rfl rfl rfl
    · intro E ex I J P n hn hP
      refine r_aload_n dX11_debtLine_51 rfl ?_
      refine r_cV0i dX11_debtLine_52 vlX11_296 sh_347 (Nat.le_of_ble_eq_true rfl) (d2 E ex I J P n (by omega) hP) ?_
      refine r_if_ne 60 dX11_debtLine_55 (by decide) (fun c55 => ?_) (fun c55 => ?_)
      · exact absurd c55 (by decide)
      · refine r_iconst (v := 0) dX11_debtLine_58 (by decide) ?_
        exact r_iret dX11_debtLine_59 rfl rfl rfl rfl
  have s1 : ∀ j, j < np → xu K2 2 6 (nI j2) 502 j = M 353 (6 + j) := fun j hj => (xu_ne (by omega)).trans ((b6.1 502 j (by omega)).trans ((a3.1 502 j (by omega)).trans (gp.2.2.2 j hj).2.1))
  have s2 : ∀ j, (xu M3 357 (10 + nd) (nI j2)) 353 (6 + j) = M 353 (6 + j) := fun j => (xu_ne (by omega)).trans ((d6.2 _ _ (by omega)).trans ((xu_ne (by omega)).trans ((b6.2 _ _ (by omega)).trans (a3.2 _ _ (by omega)))))
  have s3 : (xu M3 357 (10 + nd) (nI j2)) 356 (10 + nd) = nI j1 := (xu_ne (by omega)).trans ((d6.2 _ _ (by omega)).trans (xu_s _ _ _ _))
  have s4 : (xu M3 357 (10 + nd) (nI j2)) 347 11 = nI j2 := (xu_ne (by omega)).trans d8
  apply JG.ca (pc2 := 69)
  · intro r K' hk E ex t I J P n hn ht hE hq
    refine r_aload_n dX7_debtLine_37 rfl ?_
    refine r_cV0i dX7_debtLine_38 vlX7_136 sh_2 (Nat.le_of_ble_eq_true rfl) (d2 E ex t I J P n (by omega) ht hE hq) ?_
    refine r_if_ne 46 dX7_debtLine_41 (by decide) (fun c41 => ?_) (fun c41 => ?_)
    · refine r_aload_n dX7_debtLine_46 rfl ?_
      refine r_getIv dX7_debtLine_47 flX7_105 sh_2 (by decide) rfl (uC_cv ht (by decide) (xu_s _ _ _ _)) ?_
      refine r_istore_n2 dX7_debtLine_50 rfl ?_
      refine r_aload_n dX7_debtLine_51 rfl ?_
      refine r_getR dX7_debtLine_52 flX7_12 sh_2 (by decide) rfl hq.2.1 ?_
      refine r_getR dX7_debtLine_55 flX7_139 (tl_s _ ht) (by decide) rfl (tl_p1 hq.1 _ ht) ?_
      refine r_iload_n dX7_debtLine_58 rfl ?_
      refine r_ialv dX7_debtLine_59 (tl_a1 _ ht) (vp_in_nI (n := j1) (by omega) (by decide)) ((uC_tb (b := 502) (by decide) (by decide) _).trans ((congrArg (xu K2 2 6 (nI j2) 502) (nI_clamp (n := j1) (by omega))).trans (s1 j1 (by omega)))) ?_
      refine r_aload_n dX7_debtLine_60 rfl ?_
      refine r_getR dX7_debtLine_61 flX7_12 sh_2 (by decide) rfl hq.2.1 ?_
      refine r_getR dX7_debtLine_64 flX7_139 (tl_s _ ht) (by decide) rfl (tl_p1 hq.1 _ ht) ?_
      refine r_iload_n dX7_debtLine_67 rfl ?_
      refine r_ialv dX7_debtLine_68 (tl_a1 _ ht) (vp_in_nI (n := j2) (by omega) (by decide)) ((uC_tb (b := 502) (by decide) (by decide) _).trans ((congrArg (xu K2 2 6 (nI j2) 502) (nI_clamp (n := j2) (by omega))).trans (s1 j2 (by omega)))) ?_
      exact hk E ex t I J P n hn ht hE hq
    · exact absurd c41 (by decide)
  apply JG.rb (pc2 := 96)
  · intro r K' hk E ex I J P n hn hP
    refine r_aload_n dX11_debtLine_51 rfl ?_
    refine r_cV0i dX11_debtLine_52 vlX11_296 sh_347 (Nat.le_of_ble_eq_true rfl) (d4 E ex I J P n (by omega) hP) ?_
    refine r_if_ne 60 dX11_debtLine_55 (by decide) (fun c55 => ?_) (fun c55 => ?_)
    · refine r_aload_n dX11_debtLine_60 rfl ?_
      refine r_getR dX11_debtLine_61 flX11_42 sh_347 (by decide) rfl (pf_347_27 hP) ?_
      refine r_iload_n dX11_debtLine_64 rfl ?_
      refine r_aload_n dX11_debtLine_65 rfl ?_
      refine r_getIv dX11_debtLine_66 flX11_242 sh_347 (by decide) rfl (uR_v (by decide) d8) ?_
      refine r_iasv dX11_debtLine_69 sh_357 (vp_in_nI (n := 10 + nd) (by omega) (by decide)) ((congrArg (fun z => xu _ _ z _) (nI_clamp (n := 10 + nd) (by omega))).trans (uR_x (by decide) _ _)) ?_
      refine r_aload_n dX11_debtLine_70 rfl ?_
      refine r_getR dX11_debtLine_71 flX11_30 sh_347 (by decide) rfl (pf_347_23 hP) ?_
      refine r_bipush (v := 6) dX11_debtLine_74 (by decide) ?_
      refine r_aload_n dX11_debtLine_76 rfl ?_
      refine r_getR dX11_debtLine_77 flX11_39 sh_347 (by decide) rfl (pf_347_26 hP) ?_
      refine r_iload_n dX11_debtLine_80 rfl ?_
      refine r_ialv dX11_debtLine_81 sh_356 (vp_in_nI (n := 10 + nd) (by omega) (by decide)) ((uR_r (by decide) _).trans ((congrArg ((xu M3 357 (10 + nd) (nI j2)) 356) (nI_clamp (n := 10 + nd) (by omega))).trans s3)) ?_
      refine r_iadd dX11_debtLine_82 ?_
      rw [show (6 : Int32) + nI j1 = nI (6 + j1) from nI_add 6 j1]
      refine r_ialv dX11_debtLine_83 sh_353 (vp_in_nI (n := 6 + j1) (by omega) (by decide)) ((uR_r (by decide) _).trans ((congrArg ((xu M3 357 (10 + nd) (nI j2)) 353) (nI_clamp (n := 6 + j1) (by omega))).trans (s2 j1))) ?_
      refine r_aload_n dX11_debtLine_84 rfl ?_
      refine r_getR dX11_debtLine_85 flX11_30 sh_347 (by decide) rfl (pf_347_23 hP) ?_
      refine r_bipush (v := 6) dX11_debtLine_88 (by decide) ?_
      refine r_aload_n dX11_debtLine_90 rfl ?_
      refine r_getIv dX11_debtLine_91 flX11_242 sh_347 (by decide) rfl (uR_v (by decide) s4) ?_
      refine r_iadd dX11_debtLine_94 ?_
      rw [show (6 : Int32) + nI j2 = nI (6 + j2) from nI_add 6 j2]
      refine r_ialv dX11_debtLine_95 sh_353 (vp_in_nI (n := 6 + j2) (by omega) (by decide)) ((uR_r (by decide) _).trans ((congrArg ((xu M3 357 (10 + nd) (nI j2)) 353) (nI_clamp (n := 6 + j2) (by omega))).trans (s2 j2))) ?_
      exact hk E ex I J P n hn hP
    · exact absurd c55 (by decide)
  by_cases es : M 353 (6 + j1) = M 353 (6 + j2)
  · have t3 : jT s i2 p2 (xu K2 2 6 (nI j2)) (xu M2 356 (10 + nd) (nI j1)) := t2.c (fun a k z => xu_ne (by omega)) (fun a k z => rfl)
    refine JG.fin (r := some (.int 0)) (r' := some (.int 0)) (K' := fC (xu K2 2 6 (nI j2)) 5) (M' := fR (xu (xu M3 357 (10 + nd) (nI j2)) 347 10 ((xu M2 356 (10 + nd) (nI j1)) 347 10)) 5) ?_ ?_ ?_
    · intro E ex t I J P n hn ht hE hq
      refine r_ic_ne 78 dX7_debtLine_69 (by decide) (fun c69 => ?_) (fun c69 => ?_)
      · exact absurd es c69
      · refine r_aload_n dX7_debtLine_72 rfl ?_
        refine r_iconst (v := 5) dX7_debtLine_73 (by decide) ?_
        refine r_cV1i dX7_debtLine_74 vlX7_86 sh_2 (Nat.le_of_ble_eq_true rfl) (fail_c 5 E ex t I J P n (by omega) ht hE hq) ?_
        exact r_iret dX7_debtLine_77 rfl rfl rfl rfl
    · intro E ex I J P n hn hP
      refine r_ic_ne 110 dX11_debtLine_96 (by decide) (fun c96 => ?_) (fun c96 => ?_)
      · exact absurd es c96
      · refine r_aload_n dX11_debtLine_99 rfl ?_
        refine r_iload_n dX11_debtLine_100 rfl ?_
        refine r_putIv dX11_debtLine_101 flX11_202 ⟨_, _, _, rfl, Or.inl rfl⟩ sh_347 (by decide) rfl rfl rfl (uR_x (by decide) _ _) ?_
        refine r_aload_n dX11_debtLine_104 rfl ?_
        refine r_iconst (v := 5) dX11_debtLine_105 (by decide) ?_
        refine r_cV1i dX11_debtLine_106 vlX11_235 sh_347 (Nat.le_of_ble_eq_true rfl) (wrong_r 5 E ex I J P n (by omega) hP) ?_
        exact r_iret dX11_debtLine_109 rfl rfl rfl rfl
    · refine Qe.m0 (((((hl2.tr d6.n.lf).y6 (by omega) (vp_in_nI (n := j2) (by omega) (by decide))).x (by omega)).x (by omega)).x (by omega)) ⟨?_, ?_⟩ ?_
      · exact ((xu_ne (by decide)).trans (xu_s _ _ _ _)).trans ((xu_ne (by decide)).trans (xu_s _ _ _ _)).symm
      · exact (xu_s _ _ _ _).trans (((xu_ne (by decide)).trans t2.pl).trans ((xu_s _ _ _ _).trans (xu_s _ _ _ _)).symm)
      · exact hb2.c (fun a k z => (xu_ne (by omega)).trans ((xu_ne (by omega)).trans (xu_ne (by omega))))
  apply JG.ca (pc2 := 85)
  · intro r K' hk E ex t I J P n hn ht hE hq
    refine r_ic_ne 78 dX7_debtLine_69 (by decide) (fun c69 => ?_) (fun c69 => ?_)
    · refine r_aload_n dX7_debtLine_78 rfl ?_
      refine r_getR dX7_debtLine_79 flX7_32 sh_2 (by decide) rfl (pf_2_0 hq.1) ?_
      refine r_cV0v dX7_debtLine_82 vlX7_99 sh_28 (Nat.le_of_ble_eq_true rfl) (d3 E ex t I J P n (by omega) ht hE hq) ?_
      exact hk E ex t I J P n hn ht hE hq
    · exact absurd c69 es
  apply JG.rb (pc2 := 110)
  · intro r K' hk E ex I J P n hn hP
    refine r_ic_ne 110 dX11_debtLine_96 (by decide) (fun c96 => ?_) (fun c96 => ?_)
    · exact hk E ex I J P n hn hP
    · exact absurd c96 es
  have o1 := a2.2.2.1
  have o2 := b5.2.2.1
  exact debt_2 h (by omega) (p0 := p3) (by omega) (d5.c (fun a k z => rfl) (fun a k z => xu_ne (by omega))) (fun a k z => (d6.1 a k (by omega)).trans ((b6.1 a k (by omega)).trans (a3.1 a k (by omega)))) (fun a k z => (xu_ne (by omega)).trans ((d6.2 a k (by omega)).trans ((xu_ne (by omega)).trans ((b6.2 a k (by omega)).trans (a3.2 a k (by omega)))))) b0 d0 s3 (xu_s _ _ _ _) _
