/-! lines of both sides: crossings, twists, plank and seed -/
set_option maxHeartbeats 1000000 in
theorem addX_c {K : Nat → Nat → Int32} {nc : Nat} (hn0 : nc < 8) (hp : K 500 7 = nI nc) (x1 x2 x3 : Int32) : cRun false 1 yX6_addCrossing (fun t => [.ref t, .int x1, .int x2, .int x3]) K none (xu (xu (xu (xu K 504 nc x1) 505 nc x2) 506 nc x3) 500 7 (nI (nc + 1))) := by
  intro E ex t I J P n hn ht hE hq
  obtain ⟨d, rfl⟩ : ∃ d, n = d + 1 := ⟨n - 1, by omega⟩
  refine x_enter cqX6_addCrossing [some (.ref t), some (.int x1), some (.int x2), some (.int x3)] rfl (by simp [lg_sl, Value.category]) ?_
  refine r_aload_n dX6_addCrossing_0 rfl ?_
  refine r_getIv dX6_addCrossing_1 flX6_44 (tl_s _ ht) (by decide) rfl (uC_t0v hp) ?_
  refine r_bipush (v := 8) dX6_addCrossing_4 (by decide) ?_
  refine r_ic_ge 49 dX6_addCrossing_6 (by decide) (fun c6 => ?_) (fun c6 => ?_)
  · exact absurd c6 (nI_ge (a := nc) (b := 8) hn0 (by decide))
  · refine r_aload_n dX6_addCrossing_9 rfl ?_
    refine r_getR dX6_addCrossing_10 flX6_21 (tl_s _ ht) (by decide) rfl (tl_p4 hq.1 _ ht) ?_
    refine r_aload_n dX6_addCrossing_13 rfl ?_
    refine r_getIv dX6_addCrossing_14 flX6_44 (tl_s _ ht) (by decide) rfl (uC_t0v hp) ?_
    refine r_iload_n dX6_addCrossing_17 rfl ?_
    refine r_iasv dX6_addCrossing_18 (tl_a4 _ ht) (vp_in_nI (n := nc) (by omega) (by decide)) ((congrArg (fun z => xu _ _ z _) (nI_clamp (n := nc) (by omega))).trans (uC_xb (b := 504) (by decide) (by decide) _ _ ht)) ?_
    refine r_aload_n dX6_addCrossing_19 rfl ?_
    refine r_getR dX6_addCrossing_20 flX6_24 (tl_s _ ht) (by decide) rfl (tl_p5 hq.1 _ ht) ?_
    refine r_aload_n dX6_addCrossing_23 rfl ?_
    refine r_getIv dX6_addCrossing_24 flX6_44 (tl_s _ ht) (by decide) rfl (uC_t0v ((xu_ne (by omega)).trans hp)) ?_
    refine r_iload_n dX6_addCrossing_27 rfl ?_
    refine r_iasv dX6_addCrossing_28 (tl_a5 _ ht) (vp_in_nI (n := nc) (by omega) (by decide)) ((congrArg (fun z => xu _ _ z _) (nI_clamp (n := nc) (by omega))).trans (uC_xb (b := 505) (by decide) (by decide) _ _ ht)) ?_
    refine r_aload_n dX6_addCrossing_29 rfl ?_
    refine r_getR dX6_addCrossing_30 flX6_27 (tl_s _ ht) (by decide) rfl (tl_p6 hq.1 _ ht) ?_
    refine r_aload_n dX6_addCrossing_33 rfl ?_
    refine r_getIv dX6_addCrossing_34 flX6_44 (tl_s _ ht) (by decide) rfl (uC_t0v ((xu_ne (by omega)).trans ((xu_ne (by omega)).trans hp))) ?_
    refine r_iload_n dX6_addCrossing_37 rfl ?_
    refine r_iasv dX6_addCrossing_38 (tl_a6 _ ht) (vp_in_nI (n := nc) (by omega) (by decide)) ((congrArg (fun z => xu _ _ z _) (nI_clamp (n := nc) (by omega))).trans (uC_xb (b := 506) (by decide) (by decide) _ _ ht)) ?_
    refine r_aload_n dX6_addCrossing_39 rfl ?_
    refine r_dup dX6_addCrossing_40 rfl ?_
    refine r_getIv dX6_addCrossing_41 flX6_44 (tl_s _ ht) (by decide) rfl (uC_t0v ((xu_ne (by omega)).trans ((xu_ne (by omega)).trans ((xu_ne (by omega)).trans hp)))) ?_
    refine r_iconst (v := 1) dX6_addCrossing_44 (by decide) ?_
    refine r_iadd dX6_addCrossing_45 ?_
    rw [nI_1]
    refine r_putIv dX6_addCrossing_46 flX6_44 ⟨_, _, _, rfl, Or.inl rfl⟩ (tl_s _ ht) (by decide) rfl rfl rfl (uC_xt0 _ _ ht) ?_
    exact r_vret dX6_addCrossing_49 rfl rfl rfl
set_option maxHeartbeats 4000000 in
theorem cross_R {s i p np nd nc q ln : Nat} {K M : Nat → Nat → Int32} (h : Rl s i p np nd nc q ln K M) (hk0 : ¬ K 28 4 = 38) : ∃ r K' r' M', cRun false 5 yX7_crossLine (fun _ => [.ref 2]) K r K' ∧ rRun 4 yX11_crossLine [.ref 347] M r' M' ∧ Qe M (fun K' M' => ∃ i' p' np' nd' nc' q', p < p' ∧ Rl s i' p' np' nd' nc' q' ln K' M') r K' r' M' := by
  obtain ⟨gt, gf, gp, gd, gx, go, gw, gb⟩ := h
  have hpi : p < i := gt.2.2.2.1 hk0
  have n8 := gx.1
  refine JG.run (h := 4) (h2 := 3) cqX7_crossLine cqX11_crossLine (ls := [some (.ref 2), none, none]) (ls2 := [some (.ref 347), none]) rfl (by simp [lg_sl, Value.category]) rfl (by simp [lg_sl, Value.category]) ?_
  by_cases c0 : nc = 8
  · refine JG.fin (r := some (.int 0)) (r' := some (.int 0)) ?_ ?_ (Qe.bad gt (LF.rf M) gb 2)
    · intro E ex t I J P n hn ht hE hq
      refine r_aload_n dX7_crossLine_0 rfl ?_
      refine r_aload_n dX7_crossLine_1 rfl ?_
      refine r_getR dX7_crossLine_2 flX7_12 sh_2 (by decide) rfl hq.2.1 ?_
      refine r_getIv dX7_crossLine_5 flX7_163 (tl_s _ ht) (by decide) rfl (uC_t0v gx.2.1) ?_
      refine r_bipush (v := 8) dX7_crossLine_8 (by decide) ?_
      refine r_cV2i dX7_crossLine_10 vlX7_111 sh_2 (Nat.le_of_ble_eq_true rfl) (opn_f (by rw [c0]; decide) E ex t I J P n (by omega) ht hE hq) ?_
      refine r_if_eq 23 dX7_crossLine_13 (by decide) (fun c13 => ?_) (fun c13 => ?_)
      · refine r_iconst (v := 0) dX7_crossLine_23 (by decide) ?_
        exact r_iret dX7_crossLine_24 rfl rfl rfl rfl
      · exact absurd c13 (by decide)
    · intro E ex I J P n hn hP
      refine r_aload_n dX11_crossLine_0 rfl ?_
      refine r_getIv dX11_crossLine_1 flX11_261 sh_347 (by decide) rfl (uR_v (by decide) gx.2.2.1) ?_
      refine r_bipush (v := 8) dX11_crossLine_4 (by decide) ?_
      refine r_ic_ne 15 dX11_crossLine_6 (by decide) (fun c6 => ?_) (fun c6 => ?_)
      · exact absurd (by rw [c0]; decide) c6
      · refine r_aload_n dX11_crossLine_9 rfl ?_
        refine r_iconst (v := 2) dX11_crossLine_10 (by decide) ?_
        refine r_cV1i dX11_crossLine_11 vlX11_235 sh_347 (Nat.le_of_ble_eq_true rfl) (wrong_r 2 E ex I J P n (by omega) hP) ?_
        exact r_iret dX11_crossLine_14 rfl rfl rfl rfl
  obtain ⟨i1, p1, K1, M1, a1, a2, a3, a4, a5⟩ := adv_R gt
  have hb1 : jB K1 := gb.c (fun a k z => a3.1 a k (by omega))
  have hf1 : jF K1 M1 := gf.c (fun a k z => a3.1 a k (by omega)) (fun a k z => a3.2 a k (by omega))
  have hp1 : jP np K1 M1 := gp.c (fun a k z => a3.1 a k (by omega)) (fun a k z => a3.2 a k (by omega))
  have nc2 : M1 347 18 = nI nc := (a3.2 347 18 (by decide)).trans gx.2.2.1
  apply JG.ca (pc2 := 16)
  · intro r K' hk E ex t I J P n hn ht hE hq
    refine r_aload_n dX7_crossLine_0 rfl ?_
    refine r_aload_n dX7_crossLine_1 rfl ?_
    refine r_getR dX7_crossLine_2 flX7_12 sh_2 (by decide) rfl hq.2.1 ?_
    refine r_getIv dX7_crossLine_5 flX7_163 (tl_s _ ht) (by decide) rfl (uC_t0v gx.2.1) ?_
    refine r_bipush (v := 8) dX7_crossLine_8 (by decide) ?_
    refine r_cV2i dX7_crossLine_10 vlX7_111 sh_2 (Nat.le_of_ble_eq_true rfl) (opn_t (nI_lt (a := nc) (b := 8) (by omega) (by decide)) a4 E ex t I J P n (by omega) ht hE hq) ?_
    refine r_if_eq 23 dX7_crossLine_13 (by decide) (fun c13 => ?_) (fun c13 => ?_)
    · exact absurd c13 (by decide)
    · exact hk E ex t I J P n hn ht hE hq
  apply JG.rb (pc2 := 27)
  · intro r K' hk E ex I J P n hn hP
    refine r_aload_n dX11_crossLine_0 rfl ?_
    refine r_getIv dX11_crossLine_1 flX11_261 sh_347 (by decide) rfl (uR_v (by decide) gx.2.2.1) ?_
    refine r_bipush (v := 8) dX11_crossLine_4 (by decide) ?_
    refine r_ic_ne 15 dX11_crossLine_6 (by decide) (fun c6 => ?_) (fun c6 => ?_)
    · refine r_aload_n dX11_crossLine_15 rfl ?_
      refine r_cV0v dX11_crossLine_16 vlX11_245 sh_347 (Nat.le_of_ble_eq_true rfl) (a5 E ex I J P n (by omega) hP) ?_
      refine r_bipush (v := 8) dX11_crossLine_19 (by decide) ?_
      refine r_aload_n dX11_crossLine_21 rfl ?_
      refine r_getIv dX11_crossLine_22 flX11_261 sh_347 (by decide) rfl (uR_v (by decide) nc2) ?_
      refine r_iadd dX11_crossLine_25 ?_
      rw [show (8 : Int32) + nI nc = nI (8 + nc) from nI_add 8 nc]
      refine r_istore_n1 dX11_crossLine_26 rfl ?_
      exact hk E ex I J P n hn hP
    · exact absurd ((nI_eq (a := nc) (b := 8) (by omega) (by decide)).mp c6) c0
  rcases per_R a2 hp1 hf1 with ⟨K2, M2, b1, b2, b3, b4⟩ | ⟨j, i2, p2, K2, M2, b0, b1, b2, b3, b4, b5, b6, b7, b8⟩
  · refine JG.fin (r := some (.int 0)) (r' := some (.int 0)) ?_ ?_ (Qe.m0 (a3.lf.tr b4.lf) b3 (b4.gb hb1))
    · intro E ex t I J P n hn ht hE hq
      refine r_aload_n dX7_crossLine_16 rfl ?_
      refine r_cV0i dX7_crossLine_17 vlX7_136 sh_2 (Nat.le_of_ble_eq_true rfl) (b1 E ex t I J P n (by omega) ht hE hq) ?_
      refine r_if_ne 25 dX7_crossLine_20 (by decide) (fun c20 => ?_) (fun c20 => ?_)
      · exact absurd c20 (by decide)
      · refine r_iconst (v := 0) dX7_crossLine_23 (by decide) ?_
        exact r_iret dX7_crossLine_24 rfl rfl rfl rfl
    · intro E ex I J P n hn hP
      refine r_aload_n dX11_crossLine_27 rfl ?_
      refine r_cV0i dX11_crossLine_28 vlX11_296 sh_347 (Nat.le_of_ble_eq_true rfl) (b2 E ex I J P n (by omega) hP) ?_
      refine r_if_ne 36 dX11_crossLine_31 (by decide) (fun c31 => ?_) (fun c31 => ?_)
      · exact absurd c31 (by decide)
      · refine r_iconst (v := 0) dX11_crossLine_34 (by decide) ?_
        exact r_iret dX11_crossLine_35 rfl rfl rfl rfl
  apply JG.ca (pc2 := 37)
  · intro r K' hk E ex t I J P n hn ht hE hq
    refine r_aload_n dX7_crossLine_16 rfl ?_
    refine r_cV0i dX7_crossLine_17 vlX7_136 sh_2 (Nat.le_of_ble_eq_true rfl) (b2 E ex t I J P n (by omega) ht hE hq) ?_
    refine r_if_ne 25 dX7_crossLine_20 (by decide) (fun c20 => ?_) (fun c20 => ?_)
    · refine r_aload_n dX7_crossLine_25 rfl ?_
      refine r_getIv dX7_crossLine_26 flX7_105 sh_2 (by decide) rfl (uC_cv ht (by decide) (xu_s _ _ _ _)) ?_
      refine r_istore_n1 dX7_crossLine_29 rfl ?_
      refine r_aload_n dX7_crossLine_30 rfl ?_
      refine r_getR dX7_crossLine_31 flX7_32 sh_2 (by decide) rfl (pf_2_0 hq.1) ?_
      refine r_cV0v dX7_crossLine_34 vlX7_99 sh_28 (Nat.le_of_ble_eq_true rfl) (b3 E ex t I J P n (by omega) ht hE hq) ?_
      exact hk E ex t I J P n hn ht hE hq
    · exact absurd c20 (by decide)
  apply JG.rb (pc2 := 46)
  · intro r K' hk E ex I J P n hn hP
    refine r_aload_n dX11_crossLine_27 rfl ?_
    refine r_cV0i dX11_crossLine_28 vlX11_296 sh_347 (Nat.le_of_ble_eq_true rfl) (b4 E ex I J P n (by omega) hP) ?_
    refine r_if_ne 36 dX11_crossLine_31 (by decide) (fun c31 => ?_) (fun c31 => ?_)
    · refine r_aload_n dX11_crossLine_36 rfl ?_
      refine r_getR dX11_crossLine_37 flX11_60 sh_347 (by decide) rfl (pf_347_33 hP) ?_
      refine r_iload_n dX11_crossLine_40 rfl ?_
      refine r_aload_n dX11_crossLine_41 rfl ?_
      refine r_getIv dX11_crossLine_42 flX11_242 sh_347 (by decide) rfl (uR_v (by decide) b8) ?_
      refine r_iasv dX11_crossLine_45 sh_363 (vp_in_nI (n := 8 + nc) (by omega) (by decide)) ((congrArg (fun z => xu _ _ z _) (nI_clamp (n := 8 + nc) (by omega))).trans (uR_x (by decide) _ _)) ?_
      exact hk E ex I J P n hn hP
    · exact absurd c31 (by decide)
  have t2 : jT s i2 p2 K2 (xu M2 363 (8 + nc) (nI j)) := b5.c (fun a k z => rfl) (fun a k z => xu_ne (by omega))
  have hf2 : jF K2 (xu M2 363 (8 + nc) (nI j)) := hf1.c (fun a k z => b6.1 a k (by omega)) (fun a k z => (xu_ne (by omega)).trans (b6.2 a k (by omega)))
  have hb2 : jB K2 := b6.n.gb hb1
  have hl2 : LF M (xu M2 363 (8 + nc) (nI j)) := (a3.lf.tr b6.n.lf).y6 (by omega) (vp_in_nI (n := j) (by have := gp.1; omega) (by decide))
  obtain ⟨r3, K3, M3, c1, c2, c3, c4, c5⟩ := num_R (lo := 0) (hi := 99) (by decide) (by decide) t2 hf2
  rcases c5 with rfl | ⟨rfl, i3, p3, x3, d1, d2, d3, d4, d5, d6, d7⟩
  · refine JG.fin (r := some (.int 0)) (r' := some (.int 0)) ?_ ?_ (Qe.m0 (hl2.tr c4.lf) c3 (c4.gb hb2))
    · intro E ex t I J P n hn ht hE hq
      refine r_aload_n dX7_crossLine_37 rfl ?_
      refine r_iconst (v := 0) dX7_crossLine_38 (by decide) ?_
      refine r_bipush (v := 99) dX7_crossLine_39 (by decide) ?_
      refine r_cV2i dX7_crossLine_41 vlX7_119 sh_2 (Nat.le_of_ble_eq_true rfl) (c1 E ex t I J P n (by omega) ht hE hq) ?_
      refine r_if_ne 49 dX7_crossLine_44 (by decide) (fun c44 => ?_) (fun c44 => ?_)
      · exact absurd c44 (by decide)
      · refine r_iconst (v := 0) dX7_crossLine_47 (by decide) ?_
        exact r_iret dX7_crossLine_48 rfl rfl rfl rfl
    · intro E ex I J P n hn hP
      refine r_aload_n dX11_crossLine_46 rfl ?_
      refine r_iconst (v := 0) dX11_crossLine_47 (by decide) ?_
      refine r_bipush (v := 99) dX11_crossLine_48 (by decide) ?_
      refine r_cV2i dX11_crossLine_50 vlX11_251 sh_347 (Nat.le_of_ble_eq_true rfl) (c2 E ex I J P n (by omega) hP) ?_
      refine r_if_ne 58 dX11_crossLine_53 (by decide) (fun c53 => ?_) (fun c53 => ?_)
      · exact absurd c53 (by decide)
      · refine r_iconst (v := 0) dX11_crossLine_56 (by decide) ?_
        exact r_iret dX11_crossLine_57 rfl rfl rfl rfl
  apply JG.ca (pc2 := 54)
  · intro r K' hk E ex t I J P n hn ht hE hq
    refine r_aload_n dX7_crossLine_37 rfl ?_
    refine r_iconst (v := 0) dX7_crossLine_38 (by decide) ?_
    refine r_bipush (v := 99) dX7_crossLine_39 (by decide) ?_
    refine r_cV2i dX7_crossLine_41 vlX7_119 sh_2 (Nat.le_of_ble_eq_true rfl) (c1 E ex t I J P n (by omega) ht hE hq) ?_
    refine r_if_ne 49 dX7_crossLine_44 (by decide) (fun c44 => ?_) (fun c44 => ?_)
    · refine r_aload_n dX7_crossLine_49 rfl ?_
      refine r_getIv dX7_crossLine_50 flX7_105 sh_2 (by decide) rfl (uC_cv ht (by decide) d6) ?_
      refine r_istore_n2 dX7_crossLine_53 rfl ?_
      exact hk E ex t I J P n hn ht hE hq
    · exact absurd c44 (by decide)
  apply JG.rb (pc2 := 68)
  · intro r K' hk E ex I J P n hn hP
    refine r_aload_n dX11_crossLine_46 rfl ?_
    refine r_iconst (v := 0) dX11_crossLine_47 (by decide) ?_
    refine r_bipush (v := 99) dX11_crossLine_48 (by decide) ?_
    refine r_cV2i dX11_crossLine_50 vlX11_251 sh_347 (Nat.le_of_ble_eq_true rfl) (c2 E ex I J P n (by omega) hP) ?_
    refine r_if_ne 58 dX11_crossLine_53 (by decide) (fun c53 => ?_) (fun c53 => ?_)
    · refine r_aload_n dX11_crossLine_58 rfl ?_
      refine r_getR dX11_crossLine_59 flX11_63 sh_347 (by decide) rfl (pf_347_34 hP) ?_
      refine r_iload_n dX11_crossLine_62 rfl ?_
      refine r_aload_n dX11_crossLine_63 rfl ?_
      refine r_getIv dX11_crossLine_64 flX11_242 sh_347 (by decide) rfl (uR_v (by decide) d7) ?_
      refine r_iasv dX11_crossLine_67 sh_364 (vp_in_nI (n := 8 + nc) (by omega) (by decide)) ((congrArg (fun z => xu _ _ z _) (nI_clamp (n := 8 + nc) (by omega))).trans (uR_x (by decide) _ _)) ?_
      exact hk E ex I J P n hn hP
    · exact absurd c53 (by decide)
  have t3 : jT s i3 p3 K3 (xu M3 364 (8 + nc) (nI x3)) := d4.c (fun a k z => rfl) (fun a k z => xu_ne (by omega))
  have hf3 : jF K3 (xu M3 364 (8 + nc) (nI x3)) := c3.c (fun a k z => rfl) (fun a k z => xu_ne (by omega))
  have hb3 : jB K3 := c4.gb hb2
  have hl3 : LF M (xu M3 364 (8 + nc) (nI x3)) := (hl2.tr c4.lf).x (by omega)
  obtain ⟨r4, K4, M4, e1, e2, e3, e4, e5⟩ := num_R (lo := 0) (hi := 99) (by decide) (by decide) t3 hf3
  rcases e5 with rfl | ⟨rfl, i4, p4, x4, f1, f2, f3, f4, f5, f6, f7⟩
  · refine JG.fin (r := some (.int 0)) (r' := some (.int 0)) ?_ ?_ (Qe.m0 (hl3.tr e4.lf) e3 (e4.gb hb3))
    · intro E ex t I J P n hn ht hE hq
      refine r_aload_n dX7_crossLine_54 rfl ?_
      refine r_iconst (v := 0) dX7_crossLine_55 (by decide) ?_
      refine r_bipush (v := 99) dX7_crossLine_56 (by decide) ?_
      refine r_cV2i dX7_crossLine_58 vlX7_119 sh_2 (Nat.le_of_ble_eq_true rfl) (e1 E ex t I J P n (by omega) ht hE hq) ?_
      refine r_if_ne 66 dX7_crossLine_61 (by decide) (fun c61 => ?_) (fun c61 => ?_)
      · exact absurd c61 (by decide)
      · refine r_iconst (v := 0) dX7_crossLine_64 (by decide) ?_
        exact r_iret dX7_crossLine_65 rfl rfl rfl rfl
    · intro E ex I J P n hn hP
      refine r_aload_n dX11_crossLine_68 rfl ?_
      refine r_iconst (v := 0) dX11_crossLine_69 (by decide) ?_
      refine r_bipush (v := 99) dX11_crossLine_70 (by decide) ?_
      refine r_cV2i dX11_crossLine_72 vlX11_251 sh_347 (Nat.le_of_ble_eq_true rfl) (e2 E ex I J P n (by omega) hP) ?_
      refine r_if_ne 80 dX11_crossLine_75 (by decide) (fun c75 => ?_) (fun c75 => ?_)
      · exact absurd c75 (by decide)
      · refine r_iconst (v := 0) dX11_crossLine_78 (by decide) ?_
        exact r_iret dX11_crossLine_79 rfl rfl rfl rfl
  have o1 := a2.2.2.1
  have o2 := b5.2.2.1
  have o3 := d4.2.2.1
  have fK : ∀ a k, ¬ (a = 28 ∨ (a = 2 ∧ k = 6)) → K4 a k = K a k := fun a k z => (f5.1 a k (by omega)).trans ((d5.1 a k (by omega)).trans ((b6.1 a k (by omega)).trans (a3.1 a k (by omega))))
  have fM : ∀ a k, ¬ ((a = 347 ∧ 6 ≤ k ∧ k ≤ 11) ∨ ((363 ≤ a ∧ a ≤ 364) ∧ k = 8 + nc)) → M4 a k = M a k := fun a k z => (f5.2 a k (by omega)).trans ((xu_ne (by omega)).trans ((d5.2 a k (by omega)).trans ((xu_ne (by omega)).trans ((b6.2 a k (by omega)).trans (a3.2 a k (by omega))))))
  have f8 : K4 500 7 = nI nc := (fK 500 7 (by omega)).trans gx.2.1
  have f9 : M4 347 18 = nI nc := (fM 347 18 (by omega)).trans gx.2.2.1
  have y2 : M4 363 (8 + nc) = nI j := (f5.2 _ _ (by omega)).trans ((xu_ne (by omega)).trans ((d5.2 _ _ (by omega)).trans (xu_s _ _ _ _)))
  have y3 : M4 364 (8 + nc) = nI x3 := (f5.2 _ _ (by omega)).trans (xu_s _ _ _ _)
  refine JG.fin (r := some (.int 1)) (r' := some (.int 1)) (K' := xu (xu (xu (xu K4 504 nc (nI j)) 505 nc (nI x3)) 506 nc (nI x4)) 500 7 (nI (nc + 1))) (M' := xu (xu M4 365 (8 + nc) (nI x4)) 347 18 (nI (nc + 1))) ?_ ?_ ?_
  · intro E ex t I J P n hn ht hE hq
    refine r_aload_n dX7_crossLine_54 rfl ?_
    refine r_iconst (v := 0) dX7_crossLine_55 (by decide) ?_
    refine r_bipush (v := 99) dX7_crossLine_56 (by decide) ?_
    refine r_cV2i dX7_crossLine_58 vlX7_119 sh_2 (Nat.le_of_ble_eq_true rfl) (e1 E ex t I J P n (by omega) ht hE hq) ?_
    refine r_if_ne 66 dX7_crossLine_61 (by decide) (fun c61 => ?_) (fun c61 => ?_)
    · refine r_aload_n dX7_crossLine_66 rfl ?_
      refine r_getR dX7_crossLine_67 flX7_12 sh_2 (by decide) rfl hq.2.1 ?_
      refine r_iload_n dX7_crossLine_70 rfl ?_
      refine r_iload_n dX7_crossLine_71 rfl ?_
      refine r_aload_n dX7_crossLine_72 rfl ?_
      refine r_getIv dX7_crossLine_73 flX7_105 sh_2 (by decide) rfl (uC_cv ht (by decide) f6) ?_
      refine r_cV3v dX7_crossLine_76 vlX7_166 (tl_s _ ht) (Nat.le_of_ble_eq_true rfl) (addX_c (by omega) f8 _ _ _ E ex t I J P n (by omega) ht hE hq) ?_
      refine r_iconst (v := 1) dX7_crossLine_79 (by decide) ?_
      exact r_iret dX7_crossLine_80 rfl rfl rfl rfl
    · exact absurd c61 (by decide)
  · intro E ex I J P n hn hP
    refine r_aload_n dX11_crossLine_68 rfl ?_
    refine r_iconst (v := 0) dX11_crossLine_69 (by decide) ?_
    refine r_bipush (v := 99) dX11_crossLine_70 (by decide) ?_
    refine r_cV2i dX11_crossLine_72 vlX11_251 sh_347 (Nat.le_of_ble_eq_true rfl) (e2 E ex I J P n (by omega) hP) ?_
    refine r_if_ne 80 dX11_crossLine_75 (by decide) (fun c75 => ?_) (fun c75 => ?_)
    · refine r_aload_n dX11_crossLine_80 rfl ?_
      refine r_getR dX11_crossLine_81 flX11_66 sh_347 (by decide) rfl (pf_347_35 hP) ?_
      refine r_iload_n dX11_crossLine_84 rfl ?_
      refine r_aload_n dX11_crossLine_85 rfl ?_
      refine r_getIv dX11_crossLine_86 flX11_242 sh_347 (by decide) rfl (uR_v (by decide) f7) ?_
      refine r_iasv dX11_crossLine_89 sh_365 (vp_in_nI (n := 8 + nc) (by omega) (by decide)) ((congrArg (fun z => xu _ _ z _) (nI_clamp (n := 8 + nc) (by omega))).trans (uR_x (by decide) _ _)) ?_
      refine r_aload_n dX11_crossLine_90 rfl ?_
      refine r_dup dX11_crossLine_91 rfl ?_
      refine r_getIv dX11_crossLine_92 flX11_261 sh_347 (by decide) rfl (uR_v (by decide) ((xu_ne (by omega)).trans f9)) ?_
      refine r_iconst (v := 1) dX11_crossLine_95 (by decide) ?_
      refine r_iadd dX11_crossLine_96 ?_
      rw [nI_1]
      refine r_putIv dX11_crossLine_97 flX11_261 ⟨_, _, _, rfl, Or.inl rfl⟩ sh_347 (by decide) rfl rfl rfl (uR_x (by decide) _ _) ?_
      refine r_iconst (v := 1) dX11_crossLine_100 (by decide) ?_
      exact r_iret dX11_crossLine_101 rfl rfl rfl rfl
    · exact absurd c75 (by decide)
  · have hK : ∀ a k, ¬ (((504 ≤ a ∧ a ≤ 506) ∧ k = nc) ∨ (a = 500 ∧ k = 7)) → (xu (xu (xu (xu K4 504 nc (nI j)) 505 nc (nI x3)) 506 nc (nI x4)) 500 7 (nI (nc + 1))) a k = K4 a k := fun a k z => ((xu_ne (by omega)).trans ((xu_ne (by omega)).trans ((xu_ne (by omega)).trans (xu_ne (by omega)))))
    have hM : ∀ a k, ¬ ((a = 365 ∧ k = 8 + nc) ∨ (a = 347 ∧ k = 18)) → (xu (xu M4 365 (8 + nc) (nI x4)) 347 18 (nI (nc + 1))) a k = M4 a k := fun a k z => ((xu_ne (by omega)).trans (xu_ne (by omega)))
    have jf : jF (xu (xu (xu (xu K4 504 nc (nI j)) 505 nc (nI x3)) 506 nc (nI x4)) 500 7 (nI (nc + 1))) (xu (xu M4 365 (8 + nc) (nI x4)) 347 18 (nI (nc + 1))) := e3.c (fun a k z => hK a k (by omega)) (fun a k z => hM a k (by omega))
    have jb : jB (xu (xu (xu (xu K4 504 nc (nI j)) 505 nc (nI x3)) 506 nc (nI x4)) 500 7 (nI (nc + 1))) := (e4.gb hb3).y (c := nc) (fun a k z => hK a k (by omega)) (by rw [show (xu (xu (xu (xu K4 504 nc (nI j)) 505 nc (nI x3)) 506 nc (nI x4)) 500 7 (nI (nc + 1))) 504 nc = nI j from ((xu_ne (by omega)).trans ((xu_ne (by omega)).trans ((xu_ne (by omega)).trans (xu_s _ _ _ _))))]; exact vp_in_nI (n := j) (by have := gp.1; omega) (by decide))
    refine Qe.m1 (((hl3.tr e4.lf).x (by omega)).x (by omega)) jf jb ⟨i4, p4, np, nd, nc + 1, q, by omega, f4.c (fun a k z => hK a k (by omega)) (fun a k z => hM a k (by omega)), jf, ?_, ?_, ?_, ?_, ?_, jb⟩
    · exact gp.c (fun a k z => (hK a k (by omega)).trans (fK a k (by omega))) (fun a k z => (hM a k (by omega)).trans (fM a k (by omega)))
    · exact gd.c (fun a k z => (hK a k (by omega)).trans (fK a k (by omega))) (fun a k z => (hM a k (by omega)).trans (fM a k (by omega)))
    · refine ⟨by omega, xu_s _ _ _ _, xu_s _ _ _ _, fun j2 hj => ?_⟩
      by_cases ej : j2 = nc
      · subst ej
        have w1 : ∀ z, xu (xu (xu (xu K4 504 j2 (nI j)) 505 j2 (nI x3)) 506 j2 (nI x4)) 500 7 z 504 j2 = nI j := fun z => ((xu_ne (by omega)).trans ((xu_ne (by omega)).trans ((xu_ne (by omega)).trans (xu_s _ _ _ _))))
        have w2 : ∀ z, xu (xu (xu (xu K4 504 j2 (nI j)) 505 j2 (nI x3)) 506 j2 (nI x4)) 500 7 z 505 j2 = nI x3 := fun z => ((xu_ne (by omega)).trans ((xu_ne (by omega)).trans (xu_s _ _ _ _)))
        have w3 : ∀ z, xu (xu (xu (xu K4 504 j2 (nI j)) 505 j2 (nI x3)) 506 j2 (nI x4)) 500 7 z 506 j2 = nI x4 := fun z => ((xu_ne (by omega)).trans (xu_s _ _ _ _))
        rw [w1, w2, w3, hM 363 _ (by omega), hM 364 _ (by omega), y2, y3]
        exact ⟨vp_in_nI b0 (by have := gp.1; omega), rfl, rfl, ((xu_ne (by omega)).trans (xu_s _ _ _ _)).symm⟩
      · have w := gx.2.2.2 j2 (by omega)
        rw [hK 504 j2 (by omega), hK 505 j2 (by omega), hK 506 j2 (by omega), fK 504 j2 (by omega), fK 505 j2 (by omega), fK 506 j2 (by omega), hM 363 _ (by omega), hM 364 _ (by omega), hM 365 _ (by omega), fM 363 _ (by omega), fM 364 _ (by omega), fM 365 _ (by omega)]
        exact w
    · exact go.c (fun a k z => (hK a k (by omega)).trans (fK a k (by omega))) (fun a k z => (hM a k (by omega)).trans (fM a k (by omega)))
    · exact gw.c (fun a k z => (hK a k (by omega)).trans (fK a k (by omega))) (fun a k z => (hM a k (by omega)).trans (fM a k (by omega)))
set_option maxHeartbeats 1000000 in
theorem twine_c {K : Nat → Nat → Int32} {x z0 : Nat} (hx : x < 12) (hz : z0 < 12) : cRun false 1 yX0_twine (fun _ => [.ref 16, .int (nI x), .int (nI z0)]) K none (xu (xu K 26 x (nI z0)) 26 z0 (nI x)) := by
  refine cAt.run (h := 0) cqX0_twine (ls := [some (.ref 16), some (.int (nI x)), some (.int (nI z0))]) rfl (by simp [lg_sl, Value.category]) ?_
  intro E ex t I J P n hn ht hE hq
  refine r_aload_n dX0_twine_0 rfl ?_
  refine r_getR dX0_twine_1 flX0_39 sh_16 (by decide) rfl (pf_16_10 hq.1) ?_
  refine r_iload_n dX0_twine_4 rfl ?_
  refine r_iload_n dX0_twine_5 rfl ?_
  refine r_iasv dX0_twine_6 sh_26 (vp_in_nI (n := x) (by omega) (by decide)) ((congrArg (fun z => xu _ _ z _) (nI_clamp (n := x) (by omega))).trans (uC_xc ht (by decide) _ _)) ?_
  refine r_aload_n dX0_twine_7 rfl ?_
  refine r_getR dX0_twine_8 flX0_39 sh_16 (by decide) rfl (pf_16_10 hq.1) ?_
  refine r_iload_n dX0_twine_11 rfl ?_
  refine r_iload_n dX0_twine_12 rfl ?_
  refine r_iasv dX0_twine_13 sh_26 (vp_in_nI (n := z0) (by omega) (by decide)) ((congrArg (fun z => xu _ _ z _) (nI_clamp (n := z0) (by omega))).trans (uC_xc ht (by decide) _ _)) ?_
  exact r_vret dX0_twine_14 rfl rfl rfl
set_option maxHeartbeats 4000000 in
theorem twist_R {s i p np nd nc q ln : Nat} {K M : Nat → Nat → Int32} (h : Rl s i p np nd nc q ln K M) (hk0 : ¬ K 28 4 = 38) : ∃ r K' r' M', cRun false 6 yX7_twistLine (fun _ => [.ref 2]) K r K' ∧ rRun 5 yX11_twistLine [.ref 347] M r' M' ∧ Qe M (fun K' M' => ∃ i' p' np' nd' nc' q', p < p' ∧ Rl s i' p' np' nd' nc' q' ln K' M') r K' r' M' := by
  obtain ⟨gt, gf, gp, gd, gx, go, gw, gb⟩ := h
  have hpi : p < i := gt.2.2.2.1 hk0
  have n10 := gd.1
  refine JG.run (h := 5) (h2 := 4) cqX7_twistLine cqX11_twistLine (ls := [some (.ref 2), none]) (ls2 := [some (.ref 347), none]) rfl (by simp [lg_sl, Value.category]) rfl (by simp [lg_sl, Value.category]) ?_
  obtain ⟨i1, p1, K1, M1, a1, a2, a3, a4, a5⟩ := adv_R gt
  have hb1 : jB K1 := gb.c (fun a k z => a3.1 a k (by omega))
  have hf1 : jF K1 M1 := gf.c (fun a k z => a3.1 a k (by omega)) (fun a k z => a3.2 a k (by omega))
  have hd1 : jD np nd K1 M1 := gd.c (fun a k z => a3.1 a k (by omega)) (fun a k z => a3.2 a k (by omega))
  apply JG.ca (pc2 := 7)
  · intro r K' hk E ex t I J P n hn ht hE hq
    refine r_aload_n dX7_twistLine_0 rfl ?_
    refine r_getR dX7_twistLine_1 flX7_32 sh_2 (by decide) rfl (pf_2_0 hq.1) ?_
    refine r_cV0v dX7_twistLine_4 vlX7_99 sh_28 (Nat.le_of_ble_eq_true rfl) (a4 E ex t I J P n (by omega) ht hE hq) ?_
    exact hk E ex t I J P n hn ht hE hq
  apply JG.rb (pc2 := 4)
  · intro r K' hk E ex I J P n hn hP
    refine r_aload_n dX11_twistLine_0 rfl ?_
    refine r_cV0v dX11_twistLine_1 vlX11_245 sh_347 (Nat.le_of_ble_eq_true rfl) (a5 E ex I J P n (by omega) hP) ?_
    exact hk E ex I J P n hn hP
  rcases fs_R (a := -1) a2 hd1 hf1 with ⟨K2, M2, b1, b2, b3, b4⟩ | ⟨x, i2, p2, K2, M2, b0, b01, b02, b1, b2, b3, b5, b6, b7, b8⟩
  · refine JG.fin (r := some (.int 0)) (r' := some (.int 0)) ?_ ?_ (Qe.m0 (a3.lf.tr b4.lf) b3 (b4.gb hb1))
    · intro E ex t I J P n hn ht hE hq
      refine r_aload_n dX7_twistLine_7 rfl ?_
      refine r_iconst (v := (-1)) dX7_twistLine_8 (by decide) ?_
      refine r_cV1i dX7_twistLine_9 vlX7_150 sh_2 (Nat.le_of_ble_eq_true rfl) (b1 E ex t I J P n (by omega) ht hE hq) ?_
      refine r_if_ne 17 dX7_twistLine_12 (by decide) (fun c12 => ?_) (fun c12 => ?_)
      · exact absurd c12 (by decide)
      · refine r_iconst (v := 0) dX7_twistLine_15 (by decide) ?_
        exact r_iret dX7_twistLine_16 rfl rfl rfl rfl
    · intro E ex I J P n hn hP
      refine r_aload_n dX11_twistLine_4 rfl ?_
      refine r_iconst (v := (-1)) dX11_twistLine_5 (by decide) ?_
      refine r_cV1i dX11_twistLine_6 vlX11_300 sh_347 (Nat.le_of_ble_eq_true rfl) (b2 E ex I J P n (by omega) hP) ?_
      refine r_if_ne 14 dX11_twistLine_9 (by decide) (fun c9 => ?_) (fun c9 => ?_)
      · exact absurd c9 (by decide)
      · refine r_iconst (v := 0) dX11_twistLine_12 (by decide) ?_
        exact r_iret dX11_twistLine_13 rfl rfl rfl rfl
  apply JG.ca (pc2 := 22)
  · intro r K' hk E ex t I J P n hn ht hE hq
    refine r_aload_n dX7_twistLine_7 rfl ?_
    refine r_iconst (v := (-1)) dX7_twistLine_8 (by decide) ?_
    refine r_cV1i dX7_twistLine_9 vlX7_150 sh_2 (Nat.le_of_ble_eq_true rfl) (b2 E ex t I J P n (by omega) ht hE hq) ?_
    refine r_if_ne 17 dX7_twistLine_12 (by decide) (fun c12 => ?_) (fun c12 => ?_)
    · refine r_aload_n dX7_twistLine_17 rfl ?_
      refine r_getIv dX7_twistLine_18 flX7_105 sh_2 (by decide) rfl (uC_cv ht (by decide) b7) ?_
      refine r_istore_n1 dX7_twistLine_21 rfl ?_
      exact hk E ex t I J P n hn ht hE hq
    · exact absurd c12 (by decide)
  apply JG.rb (pc2 := 19)
  · intro r K' hk E ex I J P n hn hP
    refine r_aload_n dX11_twistLine_4 rfl ?_
    refine r_iconst (v := (-1)) dX11_twistLine_5 (by decide) ?_
    refine r_cV1i dX11_twistLine_6 vlX11_300 sh_347 (Nat.le_of_ble_eq_true rfl) (b3 E ex I J P n (by omega) hP) ?_
    refine r_if_ne 14 dX11_twistLine_9 (by decide) (fun c9 => ?_) (fun c9 => ?_)
    · refine r_aload_n dX11_twistLine_14 rfl ?_
      refine r_getIv dX11_twistLine_15 flX11_242 sh_347 (by decide) rfl (uR_v (by decide) b8) ?_
      refine r_istore_n1 dX11_twistLine_18 rfl ?_
      exact hk E ex I J P n hn hP
    · exact absurd c9 (by decide)
  have hf2 : jF K2 M2 := hf1.c (fun a k z => b6.1 a k (by omega)) (fun a k z => b6.2 a k (by omega))
  have hd2 : jD np nd K2 M2 := hd1.c (fun a k z => b6.1 a k (by omega)) (fun a k z => b6.2 a k (by omega))
  have hb2 : jB K2 := b6.n.gb hb1
  have hl2 : LF M M2 := a3.lf.tr b6.n.lf
  rcases fs_R (a := nI x) b5 hd2 hf2 with ⟨K3, M3, c1, c2, c3, c4⟩ | ⟨x2, i4, p4, K4, M4, c0, c01, c02, c1, c2, c3, c5, c6, c7, c8⟩
  · refine JG.fin (r := some (.int 0)) (r' := some (.int 0)) ?_ ?_ (Qe.m0 (hl2.tr c4.lf) c3 (c4.gb hb2))
    · intro E ex t I J P n hn ht hE hq
      refine r_aload_n dX7_twistLine_22 rfl ?_
      refine r_iload_n dX7_twistLine_23 rfl ?_
      refine r_cV1i dX7_twistLine_24 vlX7_150 sh_2 (Nat.le_of_ble_eq_true rfl) (c1 E ex t I J P n (by omega) ht hE hq) ?_
      refine r_if_ne 32 dX7_twistLine_27 (by decide) (fun c27 => ?_) (fun c27 => ?_)
      · exact absurd c27 (by decide)
      · refine r_iconst (v := 0) dX7_twistLine_30 (by decide) ?_
        exact r_iret dX7_twistLine_31 rfl rfl rfl rfl
    · intro E ex I J P n hn hP
      refine r_aload_n dX11_twistLine_19 rfl ?_
      refine r_iload_n dX11_twistLine_20 rfl ?_
      refine r_cV1i dX11_twistLine_21 vlX11_300 sh_347 (Nat.le_of_ble_eq_true rfl) (c2 E ex I J P n (by omega) hP) ?_
      refine r_if_ne 29 dX11_twistLine_24 (by decide) (fun c24 => ?_) (fun c24 => ?_)
      · exact absurd c24 (by decide)
      · refine r_iconst (v := 0) dX11_twistLine_27 (by decide) ?_
        exact r_iret dX11_twistLine_28 rfl rfl rfl rfl
  have o1 := a2.2.2.1
  have o2 := b5.2.2.1
  have hxx : ¬ x2 = x := fun z => c01 (by rw [z])
  have fK : ∀ a k, ¬ (a = 28 ∨ (a = 2 ∧ k = 6)) → K4 a k = K a k := fun a k z => (c6.1 a k (by omega)).trans ((b6.1 a k (by omega)).trans (a3.1 a k (by omega)))
  have fM : ∀ a k, ¬ (a = 347 ∧ 6 ≤ k ∧ k ≤ 11) → M4 a k = M a k := fun a k z => (c6.2 a k (by omega)).trans ((b6.2 a k (by omega)).trans (a3.2 a k (by omega)))
  have hf4 : jF K4 M4 := hf2.c (fun a k z => c6.1 a k (by omega)) (fun a k z => c6.2 a k (by omega))
  refine JG.fin (r := some (.int 1)) (r' := some (.int 1)) (K' := xu (xu K4 26 x (nI x2)) 26 x2 (nI x)) (M' := xu (xu M4 362 (10 + x) (nI x2)) 362 (10 + x2) (nI x)) ?_ ?_ ?_
  · intro E ex t I J P n hn ht hE hq
    refine r_aload_n dX7_twistLine_22 rfl ?_
    refine r_iload_n dX7_twistLine_23 rfl ?_
    refine r_cV1i dX7_twistLine_24 vlX7_150 sh_2 (Nat.le_of_ble_eq_true rfl) (c2 E ex t I J P n (by omega) ht hE hq) ?_
    refine r_if_ne 32 dX7_twistLine_27 (by decide) (fun c27 => ?_) (fun c27 => ?_)
    · refine r_aload_n dX7_twistLine_32 rfl ?_
      refine r_getR dX7_twistLine_33 flX7_23 sh_2 (by decide) rfl (pf_2_3 hq.1) ?_
      refine r_iload_n dX7_twistLine_36 rfl ?_
      refine r_aload_n dX7_twistLine_37 rfl ?_
      refine r_getIv dX7_twistLine_38 flX7_105 sh_2 (by decide) rfl (uC_cv ht (by decide) c7) ?_
      refine r_cV2v dX7_twistLine_41 vlX7_153 sh_16 (Nat.le_of_ble_eq_true rfl) (twine_c (by omega) (by omega) E ex t I J P n (by omega) ht hE hq) ?_
      refine r_iconst (v := 1) dX7_twistLine_44 (by decide) ?_
      exact r_iret dX7_twistLine_45 rfl rfl rfl rfl
    · exact absurd c27 (by decide)
  · intro E ex I J P n hn hP
    refine r_aload_n dX11_twistLine_19 rfl ?_
    refine r_iload_n dX11_twistLine_20 rfl ?_
    refine r_cV1i dX11_twistLine_21 vlX11_300 sh_347 (Nat.le_of_ble_eq_true rfl) (c3 E ex I J P n (by omega) hP) ?_
    refine r_if_ne 29 dX11_twistLine_24 (by decide) (fun c24 => ?_) (fun c24 => ?_)
    · refine r_aload_n dX11_twistLine_29 rfl ?_
      refine r_getR dX11_twistLine_30 flX11_57 sh_347 (by decide) rfl (pf_347_32 hP) ?_
      refine r_bipush (v := 10) dX11_twistLine_33 (by decide) ?_
      refine r_iload_n dX11_twistLine_35 rfl ?_
      refine r_iadd dX11_twistLine_36 ?_
      rw [show (10 : Int32) + nI x = nI (10 + x) from nI_add 10 x]
      refine r_aload_n dX11_twistLine_37 rfl ?_
      refine r_getIv dX11_twistLine_38 flX11_242 sh_347 (by decide) rfl (uR_v (by decide) c8) ?_
      refine r_iasv dX11_twistLine_41 sh_362 (vp_in_nI (n := 10 + x) (by omega) (by decide)) ((congrArg (fun z => xu _ _ z _) (nI_clamp (n := 10 + x) (by omega))).trans (uR_x (by decide) _ _)) ?_
      refine r_aload_n dX11_twistLine_42 rfl ?_
      refine r_getR dX11_twistLine_43 flX11_57 sh_347 (by decide) rfl (pf_347_32 hP) ?_
      refine r_bipush (v := 10) dX11_twistLine_46 (by decide) ?_
      refine r_aload_n dX11_twistLine_48 rfl ?_
      refine r_getIv dX11_twistLine_49 flX11_242 sh_347 (by decide) rfl (uR_v (by decide) ((xu_ne (by omega)).trans c8)) ?_
      refine r_iadd dX11_twistLine_52 ?_
      rw [show (10 : Int32) + nI x2 = nI (10 + x2) from nI_add 10 x2]
      refine r_iload_n dX11_twistLine_53 rfl ?_
      refine r_iasv dX11_twistLine_54 sh_362 (vp_in_nI (n := 10 + x2) (by omega) (by decide)) ((congrArg (fun z => xu _ _ z _) (nI_clamp (n := 10 + x2) (by omega))).trans (uR_x (by decide) _ _)) ?_
      refine r_iconst (v := 1) dX11_twistLine_55 (by decide) ?_
      exact r_iret dX11_twistLine_56 rfl rfl rfl rfl
    · exact absurd c24 (by decide)
  · have hK : ∀ a k, ¬ (a = 26 ∧ (k = x ∨ k = x2)) → (xu (xu K4 26 x (nI x2)) 26 x2 (nI x)) a k = K4 a k := fun a k z => ((xu_ne (by omega)).trans (xu_ne (by omega)))
    have hM : ∀ a k, ¬ (a = 362 ∧ (k = 10 + x ∨ k = 10 + x2)) → (xu (xu M4 362 (10 + x) (nI x2)) 362 (10 + x2) (nI x)) a k = M4 a k := fun a k z => ((xu_ne (by omega)).trans (xu_ne (by omega)))
    have jf : jF (xu (xu K4 26 x (nI x2)) 26 x2 (nI x)) (xu (xu M4 362 (10 + x) (nI x2)) 362 (10 + x2) (nI x)) := hf4.c (fun a k z => hK a k (by omega)) (fun a k z => hM a k (by omega))
    have jb : jB (xu (xu K4 26 x (nI x2)) 26 x2 (nI x)) := (c6.n.gb hb2).c (fun a k z => hK a k (by omega))
    refine Qe.m1 (((hl2.tr c6.n.lf).x (by omega)).x (by omega)) jf jb ⟨i4, p4, np, nd, nc, q, by omega, c5.c (fun a k z => hK a k (by omega)) (fun a k z => hM a k (by omega)), jf, ?_, ?_, ?_, ?_, ?_, jb⟩
    · exact gp.c (fun a k z => (hK a k (by omega)).trans (fK a k (by omega))) (fun a k z => (hM a k (by omega)).trans (fM a k (by omega)))
    · obtain ⟨h0, h1, h2, h3, h4, h5, h6, h7⟩ := gd
      have e26 : ∀ j, xu (xu K4 26 x (nI x2)) 26 x2 (nI x) 26 j = if j = x2 then nI x else if j = x then nI x2 else K 26 j := fun j => by
        by_cases e1 : j = x2
        · subst e1; rw [if_pos rfl, xu_s]
        · rw [if_neg e1, xu_ne (by omega)]
          by_cases e2 : j = x
          · subst e2; rw [if_pos rfl, xu_s]
          · rw [if_neg e2, xu_ne (by omega), fK 26 j (by omega)]
      have e362 : ∀ j, xu (xu M4 362 (10 + x) (nI x2)) 362 (10 + x2) (nI x) 362 (10 + j) = if j = x2 then nI x else if j = x then nI x2 else M 362 (10 + j) := fun j => by
        by_cases e1 : j = x2
        · subst e1; rw [if_pos rfl, xu_s]
        · rw [if_neg e1, xu_ne (by omega)]
          by_cases e2 : j = x
          · subst e2; rw [if_pos rfl, xu_s]
          · rw [if_neg e2, xu_ne (by omega), fM 362 _ (by omega)]
      have u1 : K 26 x = -1 := (a3.1 26 x (by omega)).symm.trans b02
      have u2 : K 26 x2 = -1 := ((a3.1 26 x2 (by omega)).symm.trans (b6.1 26 x2 (by omega)).symm).trans c02
      refine ⟨h0, ((hK _ _ (by omega)).trans (fK _ _ (by omega))).trans h1, ((hK _ _ (by omega)).trans (fK _ _ (by omega))).trans h2, ((hM _ _ (by omega)).trans (fM _ _ (by omega))).trans h3, ?_, fun j hj => ?_, fun j z1 z2 => ?_, fun j hj => ?_⟩
      · rw [hK 16 12 (by omega), fK 16 12 (by omega)]; exact h4
      · have w := h5 j hj
        rw [e26, e362, hK 16 12 (by omega), hK 19 j (by omega), hK 20 j (by omega), hK 21 j (by omega), hK 22 j (by omega), hK 23 j (by omega), hK 24 j (by omega), hK 25 j (by omega), fK 16 12 (by omega), fK 19 j (by omega), fK 20 j (by omega), fK 21 j (by omega), fK 22 j (by omega), fK 23 j (by omega), fK 24 j (by omega), fK 25 j (by omega), hM 356 _ (by omega), hM 357 _ (by omega), hM 358 _ (by omega), hM 359 _ (by omega), hM 360 _ (by omega), hM 361 _ (by omega), fM 356 _ (by omega), fM 357 _ (by omega), fM 358 _ (by omega), fM 359 _ (by omega), fM 360 _ (by omega), fM 361 _ (by omega), ← w.2.2.2.2.2.2.2.2.2.2.2.1]
        exact ⟨w.1, w.2.1, w.2.2.1, w.2.2.2.1, w.2.2.2.2.1, w.2.2.2.2.2.1, w.2.2.2.2.2.2.1, w.2.2.2.2.2.2.2.1, w.2.2.2.2.2.2.2.2.1, w.2.2.2.2.2.2.2.2.2.1, w.2.2.2.2.2.2.2.2.2.2.1, rfl, w.2.2.2.2.2.2.2.2.2.2.2.2⟩
      · rw [e362, if_neg (by omega), if_neg (by omega)]; exact h6 j z1 z2
      · rw [e26]
        by_cases e1 : j = x2
        · subst e1
          rw [if_pos rfl]
          exact Or.inr ⟨x, b0, fun z => hxx z.symm, rfl, by rw [e26, if_neg (fun z => hxx z.symm), if_pos rfl]⟩
        · rw [if_neg e1]
          by_cases e2 : j = x
          · subst e2
            rw [if_pos rfl]
            exact Or.inr ⟨x2, c0, hxx, rfl, by rw [e26, if_pos rfl]⟩
          · rw [if_neg e2]
            rcases h7 j hj with z | ⟨y, z1, z2, z3, z4⟩
            · exact Or.inl z
            · refine Or.inr ⟨y, z1, z2, z3, ?_⟩
              rw [e26, if_neg (fun e => by rw [e, u2] at z4; exact nI_nm1 (by omega) z4.symm), if_neg (fun e => by rw [e, u1] at z4; exact nI_nm1 (by omega) z4.symm)]
              exact z4
    · exact gx.c (fun a k z => (hK a k (by omega)).trans (fK a k (by omega))) (fun a k z => (hM a k (by omega)).trans (fM a k (by omega)))
    · exact go.c (fun a k z => (hK a k (by omega)).trans (fK a k (by omega))) (fun a k z => (hM a k (by omega)).trans (fM a k (by omega)))
    · exact gw.c (fun a k z => (hK a k (by omega)).trans (fK a k (by omega))) (fun a k z => (hM a k (by omega)).trans (fM a k (by omega)))
