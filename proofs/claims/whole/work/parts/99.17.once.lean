/-! lines of both sides: plank and seed -/
set_option maxHeartbeats 4000000 in
theorem plank_R {s i p np nd nc q ln : Nat} {K M : Nat → Nat → Int32} (h : Rl s i p np nd nc q ln K M) (hk0 : ¬ K 28 4 = 38) : ∃ r K' r' M', cRun false 5 yX7_plankLine (fun _ => [.ref 2]) K r K' ∧ rRun 4 yX11_onceLine [.ref 347, .int 0, .int 999] M r' M' ∧ Qe M (fun K' M' => ∃ i' p' np' nd' nc' q', p < p' ∧ Rl s i' p' np' nd' nc' q' ln K' M') r K' r' M' := by
  obtain ⟨gt, gf, gp, gd, gx, go, gw, gb⟩ := h
  have hpi : p < i := gt.2.2.2.1 hk0
  refine JG.run (h := 4) (h2 := 3) cqX7_plankLine cqX11_onceLine (ls := [some (.ref 2)]) (ls2 := [some (.ref 347), some (.int 0), some (.int 999)]) rfl (by simp [lg_sl, Value.category]) rfl (by simp [lg_sl, Value.category]) ?_
  by_cases c0 : K 500 11 = 0
  case neg =>
    refine JG.fin (r := some (.int 0)) (r' := some (.int 0)) ?_ ?_ (Qe.bad gt (LF.rf M) gb 3)
    · intro E ex t I J P n hn ht hE hq
      refine r_aload_n dX7_plankLine_0 rfl ?_
      refine r_getR dX7_plankLine_1 flX7_12 sh_2 (by decide) rfl hq.2.1 ?_
      refine r_getIv dX7_plankLine_4 flX7_169 (tl_s _ ht) (by decide) rfl (uC_t0 _) ?_
      refine r_if_eq 16 dX7_plankLine_7 (by decide) (fun c7 => ?_) (fun c7 => ?_)
      · exact absurd c7 c0
      · refine r_aload_n dX7_plankLine_10 rfl ?_
        refine r_iconst (v := 3) dX7_plankLine_11 (by decide) ?_
        refine r_cV1i dX7_plankLine_12 vlX7_86 sh_2 (Nat.le_of_ble_eq_true rfl) (fail_c 3 E ex t I J P n (by omega) ht hE hq) ?_
        exact r_iret dX7_plankLine_15 rfl rfl rfl rfl
    · intro E ex I J P n hn hP
      refine r_aload_n dX11_onceLine_0 rfl ?_
      refine r_getR dX11_onceLine_1 flX11_20 sh_347 (by decide) rfl (pf_347_20 hP) ?_
      refine r_iload_n dX11_onceLine_4 rfl ?_
      refine r_zalv dX11_onceLine_5 sh_350 (vp_in_nI (n := 0) (by decide) (by decide)) ((uR_r (by decide) _).trans (congrArg (M 350) (nI_clamp (n := 0) (by decide)))) ?_
      refine r_if_eq 15 dX11_onceLine_6 (by decide) (fun c6 => ?_) (fun c6 => ?_)
      · exact absurd (go.2.1.trans c6) c0
      · refine r_aload_n dX11_onceLine_9 rfl ?_
        refine r_iconst (v := 3) dX11_onceLine_10 (by decide) ?_
        refine r_cV1i dX11_onceLine_11 vlX11_235 sh_347 (Nat.le_of_ble_eq_true rfl) (wrong_r 3 E ex I J P n (by omega) hP) ?_
        exact r_iret dX11_onceLine_14 rfl rfl rfl rfl
  have t1 : jT s i p (xu K 500 11 1) (xu M 350 0 1) := gt.c (fun a k z => xu_ne (by omega)) (fun a k z => xu_ne (by omega))
  obtain ⟨i1, p1, K1, M1, a1, a2, a3, a4, a5⟩ := adv_R t1
  have hb1 : jB K1 := gb.c (fun a k z => (a3.1 a k (by omega)).trans (xu_ne (by omega)))
  have hf1 : jF K1 M1 := gf.c (fun a k z => (a3.1 a k (by omega)).trans (xu_ne (by omega))) (fun a k z => (a3.2 a k (by omega)).trans (xu_ne (by omega)))
  have hl1 : LF M M1 := ((LF.rf M).x (by omega)).tr a3.lf
  obtain ⟨r4, K4, M4, c1, c2, c3, c4, c5⟩ := num_R (lo := 0) (hi := 999) (by decide) (by decide) a2 hf1
  apply JG.ca (pc2 := 31)
  · intro r K' hk E ex t I J P n hn ht hE hq
    refine r_aload_n dX7_plankLine_0 rfl ?_
    refine r_getR dX7_plankLine_1 flX7_12 sh_2 (by decide) rfl hq.2.1 ?_
    refine r_getIv dX7_plankLine_4 flX7_169 (tl_s _ ht) (by decide) rfl (uC_t0 _) ?_
    refine r_if_eq 16 dX7_plankLine_7 (by decide) (fun c7 => ?_) (fun c7 => ?_)
    · refine r_aload_n dX7_plankLine_16 rfl ?_
      refine r_getR dX7_plankLine_17 flX7_12 sh_2 (by decide) rfl hq.2.1 ?_
      refine r_iconst (v := 1) dX7_plankLine_20 (by decide) ?_
      refine r_putIv dX7_plankLine_21 flX7_169 ⟨_, _, _, rfl, Or.inl rfl⟩ (tl_s _ ht) (by decide) rfl rfl rfl (uC_xt0 _ _ ht) ?_
      refine r_aload_n dX7_plankLine_24 rfl ?_
      refine r_getR dX7_plankLine_25 flX7_32 sh_2 (by decide) rfl (pf_2_0 hq.1) ?_
      refine r_cV0v dX7_plankLine_28 vlX7_99 sh_28 (Nat.le_of_ble_eq_true rfl) (a4 E ex t I J P n (by omega) ht hE hq) ?_
      exact hk E ex t I J P n hn ht hE hq
    · exact absurd c0 c7
  apply JG.rb (pc2 := 26)
  · intro r K' hk E ex I J P n hn hP
    refine r_aload_n dX11_onceLine_0 rfl ?_
    refine r_getR dX11_onceLine_1 flX11_20 sh_347 (by decide) rfl (pf_347_20 hP) ?_
    refine r_iload_n dX11_onceLine_4 rfl ?_
    refine r_zalv dX11_onceLine_5 sh_350 (vp_in_nI (n := 0) (by decide) (by decide)) ((uR_r (by decide) _).trans (congrArg (M 350) (nI_clamp (n := 0) (by decide)))) ?_
    refine r_if_eq 15 dX11_onceLine_6 (by decide) (fun c6 => ?_) (fun c6 => ?_)
    · refine r_aload_n dX11_onceLine_15 rfl ?_
      refine r_getR dX11_onceLine_16 flX11_20 sh_347 (by decide) rfl (pf_347_20 hP) ?_
      refine r_iload_n dX11_onceLine_19 rfl ?_
      refine r_iconst (v := 1) dX11_onceLine_20 (by decide) ?_
      refine r_zasv dX11_onceLine_21 sh_350 (vp_in_nI (n := 0) (by decide) (by decide)) ((congrArg (fun z => xu _ _ z _) (nI_clamp (n := 0) (by decide))).trans (uR_x (by decide) _ _)) ?_
      refine r_aload_n dX11_onceLine_22 rfl ?_
      refine r_cV0v dX11_onceLine_23 vlX11_245 sh_347 (Nat.le_of_ble_eq_true rfl) (a5 E ex I J P n (by omega) hP) ?_
      exact hk E ex I J P n hn hP
    · exact absurd (go.2.1.symm.trans c0) c6
  rcases c5 with rfl | ⟨rfl, i4, p4, x4, d1, d2, d3, d4, d5, d6, d7⟩
  · refine JG.fin (r := some (.int 0)) (r' := some (.int 0)) ?_ ?_ (Qe.m0 (hl1.tr c4.lf) c3 (c4.gb hb1))
    · intro E ex t I J P n hn ht hE hq
      refine r_aload_n dX7_plankLine_31 rfl ?_
      refine r_iconst (v := 0) dX7_plankLine_32 (by decide) ?_
      refine r_sipush (v := 999) dX7_plankLine_33 (by decide) ?_
      refine r_cV2i dX7_plankLine_36 vlX7_119 sh_2 (Nat.le_of_ble_eq_true rfl) (c1 E ex t I J P n (by omega) ht hE hq) ?_
      refine r_if_ne 44 dX7_plankLine_39 (by decide) (fun c39 => ?_) (fun c39 => ?_)
      · exact absurd c39 (by decide)
      · refine r_iconst (v := 0) dX7_plankLine_42 (by decide) ?_
        exact r_iret dX7_plankLine_43 rfl rfl rfl rfl
    · intro E ex I J P n hn hP
      refine r_aload_n dX11_onceLine_26 rfl ?_
      refine r_iconst (v := 0) dX11_onceLine_27 (by decide) ?_
      refine r_iload_n dX11_onceLine_28 rfl ?_
      refine r_cV2i dX11_onceLine_29 vlX11_251 sh_347 (Nat.le_of_ble_eq_true rfl) (c2 E ex I J P n (by omega) hP) ?_
      refine r_if_ne 37 dX11_onceLine_32 (by decide) (fun c32 => ?_) (fun c32 => ?_)
      · exact absurd c32 (by decide)
      · refine r_iconst (v := 0) dX11_onceLine_35 (by decide) ?_
        exact r_iret dX11_onceLine_36 rfl rfl rfl rfl
  have o1 := a2.2.2.1
  have fK : ∀ a k, ¬ (a = 28 ∨ (a = 2 ∧ k = 6) ∨ (a = 500 ∧ k = 11)) → K4 a k = K a k := fun a k z => (d5.1 a k (by omega)).trans ((a3.1 a k (by omega)).trans (xu_ne (by omega)))
  have fM : ∀ a k, ¬ ((a = 347 ∧ 6 ≤ k ∧ k ≤ 11) ∨ (a = 350 ∧ k = 0)) → M4 a k = M a k := fun a k z => (d5.2 a k (by omega)).trans ((a3.2 a k (by omega)).trans (xu_ne (by omega)))
  have y1 : K4 500 11 = 1 := (d5.1 _ _ (by omega)).trans ((a3.1 _ _ (by omega)).trans (xu_s _ _ _ _))
  have y2 : M4 350 0 = 1 := (d5.2 _ _ (by omega)).trans ((a3.2 _ _ (by omega)).trans (xu_s _ _ _ _))
  refine JG.fin (r := some (.int 1)) (r' := some (.int 1)) (K' := xu K4 16 14 (nI x4)) (M' := xu M4 351 2 (nI x4)) ?_ ?_ ?_
  · intro E ex t I J P n hn ht hE hq
    refine r_aload_n dX7_plankLine_31 rfl ?_
    refine r_iconst (v := 0) dX7_plankLine_32 (by decide) ?_
    refine r_sipush (v := 999) dX7_plankLine_33 (by decide) ?_
    refine r_cV2i dX7_plankLine_36 vlX7_119 sh_2 (Nat.le_of_ble_eq_true rfl) (c1 E ex t I J P n (by omega) ht hE hq) ?_
    refine r_if_ne 44 dX7_plankLine_39 (by decide) (fun c39 => ?_) (fun c39 => ?_)
    · refine r_aload_n dX7_plankLine_44 rfl ?_
      refine r_getR dX7_plankLine_45 flX7_23 sh_2 (by decide) rfl (pf_2_3 hq.1) ?_
      refine r_aload_n dX7_plankLine_48 rfl ?_
      refine r_getIv dX7_plankLine_49 flX7_105 sh_2 (by decide) rfl (uC_cv ht (by decide) d6) ?_
      refine r_putIv dX7_plankLine_52 flX7_173 ⟨_, _, _, rfl, Or.inl rfl⟩ sh_16 (by decide) rfl rfl rfl (uC_xc ht (by decide) _ _) ?_
      refine r_iconst (v := 1) dX7_plankLine_55 (by decide) ?_
      exact r_iret dX7_plankLine_56 rfl rfl rfl rfl
    · exact absurd c39 (by decide)
  · intro E ex I J P n hn hP
    refine r_aload_n dX11_onceLine_26 rfl ?_
    refine r_iconst (v := 0) dX11_onceLine_27 (by decide) ?_
    refine r_iload_n dX11_onceLine_28 rfl ?_
    refine r_cV2i dX11_onceLine_29 vlX11_251 sh_347 (Nat.le_of_ble_eq_true rfl) (c2 E ex I J P n (by omega) hP) ?_
    refine r_if_ne 37 dX11_onceLine_32 (by decide) (fun c32 => ?_) (fun c32 => ?_)
    · refine r_aload_n dX11_onceLine_37 rfl ?_
      refine r_getR dX11_onceLine_38 flX11_24 sh_347 (by decide) rfl (pf_347_21 hP) ?_
      refine r_iconst (v := 2) dX11_onceLine_41 (by decide) ?_
      refine r_iload_n dX11_onceLine_42 rfl ?_
      refine r_iadd dX11_onceLine_43 ?_
      rw [show (2 : Int32) + 0 = nI 2 by decide]
      refine r_aload_n dX11_onceLine_44 rfl ?_
      refine r_getIv dX11_onceLine_45 flX11_242 sh_347 (by decide) rfl (uR_v (by decide) d7) ?_
      refine r_iasv dX11_onceLine_48 sh_351 (vp_in_nI (n := 2) (by decide) (by decide)) ((congrArg (fun z => xu _ _ z _) (nI_clamp (n := 2) (by decide))).trans (uR_x (by decide) _ _)) ?_
      refine r_iconst (v := 1) dX11_onceLine_49 (by decide) ?_
      exact r_iret dX11_onceLine_50 rfl rfl rfl rfl
    · exact absurd c32 (by decide)
  · have hK : ∀ a k, ¬ (a = 16 ∧ k = 14) → (xu K4 16 14 (nI x4)) a k = K4 a k := fun a k z => xu_ne (by omega)
    have hM : ∀ a k, ¬ (a = 351 ∧ k = 2) → (xu M4 351 2 (nI x4)) a k = M4 a k := fun a k z => xu_ne (by omega)
    have jf : jF (xu K4 16 14 (nI x4)) (xu M4 351 2 (nI x4)) := c3.c (fun a k z => hK a k (by omega)) (fun a k z => hM a k (by omega))
    have jb : jB (xu K4 16 14 (nI x4)) := (c4.gb hb1).c (fun a k z => hK a k (by omega))
    refine Qe.m1 ((hl1.tr c4.lf).x (by omega)) jf jb ⟨i4, p4, np, nd, nc, q, by omega, d4.c (fun a k z => hK a k (by omega)) (fun a k z => hM a k (by omega)), jf, ?_, ?_, ?_, ?_, ?_, jb⟩
    · exact gp.c (fun a k z => (hK a k (by omega)).trans (fK a k (by omega))) (fun a k z => (hM a k (by omega)).trans (fM a k (by omega)))
    · exact gd.c (fun a k z => (hK a k (by omega)).trans (fK a k (by omega))) (fun a k z => (hM a k (by omega)).trans (fM a k (by omega)))
    · exact gx.c (fun a k z => (hK a k (by omega)).trans (fK a k (by omega))) (fun a k z => (hM a k (by omega)).trans (fM a k (by omega)))
    · refine ⟨((hK _ _ (by omega)).trans (fK _ _ (by omega))).trans go.1, ?_, ?_, ?_, ?_, ((hK _ _ (by omega)).trans (fK _ _ (by omega))).trans go.2.2.2.2.2.1, fun k hk => ((hK _ _ (by omega)).trans (fK _ _ (by omega))).trans (go.2.2.2.2.2.2 k hk)⟩
      · rw [hK 500 11 (by omega), hM 350 0 (by omega), y1, y2]
      · rw [hK 500 12 (by omega), hM 350 1 (by omega), fK 500 12 (by omega), fM 350 1 (by omega)]; exact go.2.2.1
      · rw [xu_s, xu_s]
      · rw [xu_s]; exact ⟨x4, d2, d3, rfl⟩
    · exact gw.c (fun a k z => (hK a k (by omega)).trans (fK a k (by omega))) (fun a k z => (hM a k (by omega)).trans (fM a k (by omega)))
set_option maxHeartbeats 4000000 in
theorem seed_R {s i p np nd nc q ln : Nat} {K M : Nat → Nat → Int32} (h : Rl s i p np nd nc q ln K M) (hk0 : ¬ K 28 4 = 38) : ∃ r K' r' M', cRun false 5 yX7_seedLine (fun _ => [.ref 2]) K r K' ∧ rRun 4 yX11_onceLine [.ref 347, .int 1, .int 99999] M r' M' ∧ Qe M (fun K' M' => ∃ i' p' np' nd' nc' q', p < p' ∧ Rl s i' p' np' nd' nc' q' ln K' M') r K' r' M' := by
  obtain ⟨gt, gf, gp, gd, gx, go, gw, gb⟩ := h
  have hpi : p < i := gt.2.2.2.1 hk0
  refine JG.run (h := 4) (h2 := 3) cqX7_seedLine cqX11_onceLine (ls := [some (.ref 2)]) (ls2 := [some (.ref 347), some (.int 1), some (.int 99999)]) rfl (by simp [lg_sl, Value.category]) rfl (by simp [lg_sl, Value.category]) ?_
  by_cases c0 : K 500 12 = 0
  case neg =>
    refine JG.fin (r := some (.int 0)) (r' := some (.int 0)) ?_ ?_ (Qe.bad gt (LF.rf M) gb 3)
    · intro E ex t I J P n hn ht hE hq
      refine r_aload_n dX7_seedLine_0 rfl ?_
      refine r_getR dX7_seedLine_1 flX7_12 sh_2 (by decide) rfl hq.2.1 ?_
      refine r_getIv dX7_seedLine_4 flX7_176 (tl_s _ ht) (by decide) rfl (uC_t0 _) ?_
      refine r_if_eq 16 dX7_seedLine_7 (by decide) (fun c7 => ?_) (fun c7 => ?_)
      · exact absurd c7 c0
      · refine r_aload_n dX7_seedLine_10 rfl ?_
        refine r_iconst (v := 3) dX7_seedLine_11 (by decide) ?_
        refine r_cV1i dX7_seedLine_12 vlX7_86 sh_2 (Nat.le_of_ble_eq_true rfl) (fail_c 3 E ex t I J P n (by omega) ht hE hq) ?_
        exact r_iret dX7_seedLine_15 rfl rfl rfl rfl
    · intro E ex I J P n hn hP
      refine r_aload_n dX11_onceLine_0 rfl ?_
      refine r_getR dX11_onceLine_1 flX11_20 sh_347 (by decide) rfl (pf_347_20 hP) ?_
      refine r_iload_n dX11_onceLine_4 rfl ?_
      refine r_zalv dX11_onceLine_5 sh_350 (vp_in_nI (n := 1) (by decide) (by decide)) ((uR_r (by decide) _).trans (congrArg (M 350) (nI_clamp (n := 1) (by decide)))) ?_
      refine r_if_eq 15 dX11_onceLine_6 (by decide) (fun c6 => ?_) (fun c6 => ?_)
      · exact absurd (go.2.2.1.trans c6) c0
      · refine r_aload_n dX11_onceLine_9 rfl ?_
        refine r_iconst (v := 3) dX11_onceLine_10 (by decide) ?_
        refine r_cV1i dX11_onceLine_11 vlX11_235 sh_347 (Nat.le_of_ble_eq_true rfl) (wrong_r 3 E ex I J P n (by omega) hP) ?_
        exact r_iret dX11_onceLine_14 rfl rfl rfl rfl
  have t1 : jT s i p (xu K 500 12 1) (xu M 350 1 1) := gt.c (fun a k z => xu_ne (by omega)) (fun a k z => xu_ne (by omega))
  obtain ⟨i1, p1, K1, M1, a1, a2, a3, a4, a5⟩ := adv_R t1
  have hb1 : jB K1 := gb.c (fun a k z => (a3.1 a k (by omega)).trans (xu_ne (by omega)))
  have hf1 : jF K1 M1 := gf.c (fun a k z => (a3.1 a k (by omega)).trans (xu_ne (by omega))) (fun a k z => (a3.2 a k (by omega)).trans (xu_ne (by omega)))
  have hl1 : LF M M1 := ((LF.rf M).x (by omega)).tr a3.lf
  obtain ⟨r4, K4, M4, c1, c2, c3, c4, c5⟩ := num_R (lo := 0) (hi := 99999) (by decide) (by decide) a2 hf1
  apply JG.ca (pc2 := 31)
  · intro r K' hk E ex t I J P n hn ht hE hq
    refine r_aload_n dX7_seedLine_0 rfl ?_
    refine r_getR dX7_seedLine_1 flX7_12 sh_2 (by decide) rfl hq.2.1 ?_
    refine r_getIv dX7_seedLine_4 flX7_176 (tl_s _ ht) (by decide) rfl (uC_t0 _) ?_
    refine r_if_eq 16 dX7_seedLine_7 (by decide) (fun c7 => ?_) (fun c7 => ?_)
    · refine r_aload_n dX7_seedLine_16 rfl ?_
      refine r_getR dX7_seedLine_17 flX7_12 sh_2 (by decide) rfl hq.2.1 ?_
      refine r_iconst (v := 1) dX7_seedLine_20 (by decide) ?_
      refine r_putIv dX7_seedLine_21 flX7_176 ⟨_, _, _, rfl, Or.inl rfl⟩ (tl_s _ ht) (by decide) rfl rfl rfl (uC_xt0 _ _ ht) ?_
      refine r_aload_n dX7_seedLine_24 rfl ?_
      refine r_getR dX7_seedLine_25 flX7_32 sh_2 (by decide) rfl (pf_2_0 hq.1) ?_
      refine r_cV0v dX7_seedLine_28 vlX7_99 sh_28 (Nat.le_of_ble_eq_true rfl) (a4 E ex t I J P n (by omega) ht hE hq) ?_
      exact hk E ex t I J P n hn ht hE hq
    · exact absurd c0 c7
  apply JG.rb (pc2 := 26)
  · intro r K' hk E ex I J P n hn hP
    refine r_aload_n dX11_onceLine_0 rfl ?_
    refine r_getR dX11_onceLine_1 flX11_20 sh_347 (by decide) rfl (pf_347_20 hP) ?_
    refine r_iload_n dX11_onceLine_4 rfl ?_
    refine r_zalv dX11_onceLine_5 sh_350 (vp_in_nI (n := 1) (by decide) (by decide)) ((uR_r (by decide) _).trans (congrArg (M 350) (nI_clamp (n := 1) (by decide)))) ?_
    refine r_if_eq 15 dX11_onceLine_6 (by decide) (fun c6 => ?_) (fun c6 => ?_)
    · refine r_aload_n dX11_onceLine_15 rfl ?_
      refine r_getR dX11_onceLine_16 flX11_20 sh_347 (by decide) rfl (pf_347_20 hP) ?_
      refine r_iload_n dX11_onceLine_19 rfl ?_
      refine r_iconst (v := 1) dX11_onceLine_20 (by decide) ?_
      refine r_zasv dX11_onceLine_21 sh_350 (vp_in_nI (n := 1) (by decide) (by decide)) ((congrArg (fun z => xu _ _ z _) (nI_clamp (n := 1) (by decide))).trans (uR_x (by decide) _ _)) ?_
      refine r_aload_n dX11_onceLine_22 rfl ?_
      refine r_cV0v dX11_onceLine_23 vlX11_245 sh_347 (Nat.le_of_ble_eq_true rfl) (a5 E ex I J P n (by omega) hP) ?_
      exact hk E ex I J P n hn hP
    · exact absurd (go.2.2.1.symm.trans c0) c6
  rcases c5 with rfl | ⟨rfl, i4, p4, x4, d1, d2, d3, d4, d5, d6, d7⟩
  · refine JG.fin (r := some (.int 0)) (r' := some (.int 0)) ?_ ?_ (Qe.m0 (hl1.tr c4.lf) c3 (c4.gb hb1))
    · intro E ex t I J P n hn ht hE hq
      refine r_aload_n dX7_seedLine_31 rfl ?_
      refine r_iconst (v := 0) dX7_seedLine_32 (by decide) ?_
      refine r_ldc dX7_seedLine_33 kcX7_179 ?_
      refine r_cV2i dX7_seedLine_35 vlX7_119 sh_2 (Nat.le_of_ble_eq_true rfl) (c1 E ex t I J P n (by omega) ht hE hq) ?_
      exact r_iret dX7_seedLine_38 rfl rfl rfl rfl
    · intro E ex I J P n hn hP
      refine r_aload_n dX11_onceLine_26 rfl ?_
      refine r_iconst (v := 0) dX11_onceLine_27 (by decide) ?_
      refine r_iload_n dX11_onceLine_28 rfl ?_
      refine r_cV2i dX11_onceLine_29 vlX11_251 sh_347 (Nat.le_of_ble_eq_true rfl) (c2 E ex I J P n (by omega) hP) ?_
      refine r_if_ne 37 dX11_onceLine_32 (by decide) (fun c32 => ?_) (fun c32 => ?_)
      · exact absurd c32 (by decide)
      · refine r_iconst (v := 0) dX11_onceLine_35 (by decide) ?_
        exact r_iret dX11_onceLine_36 rfl rfl rfl rfl
  have o1 := a2.2.2.1
  have fK : ∀ a k, ¬ (a = 28 ∨ (a = 2 ∧ k = 6) ∨ (a = 500 ∧ k = 12)) → K4 a k = K a k := fun a k z => (d5.1 a k (by omega)).trans ((a3.1 a k (by omega)).trans (xu_ne (by omega)))
  have fM : ∀ a k, ¬ ((a = 347 ∧ 6 ≤ k ∧ k ≤ 11) ∨ (a = 350 ∧ k = 1)) → M4 a k = M a k := fun a k z => (d5.2 a k (by omega)).trans ((a3.2 a k (by omega)).trans (xu_ne (by omega)))
  have y1 : K4 500 12 = 1 := (d5.1 _ _ (by omega)).trans ((a3.1 _ _ (by omega)).trans (xu_s _ _ _ _))
  have y2 : M4 350 1 = 1 := (d5.2 _ _ (by omega)).trans ((a3.2 _ _ (by omega)).trans (xu_s _ _ _ _))
  refine JG.fin (r := some (.int 1)) (r' := some (.int 1)) (K' := K4) (M' := xu M4 351 3 (nI x4)) ?_ ?_ ?_
  · intro E ex t I J P n hn ht hE hq
    refine r_aload_n dX7_seedLine_31 rfl ?_
    refine r_iconst (v := 0) dX7_seedLine_32 (by decide) ?_
    refine r_ldc dX7_seedLine_33 kcX7_179 ?_
    refine r_cV2i dX7_seedLine_35 vlX7_119 sh_2 (Nat.le_of_ble_eq_true rfl) (c1 E ex t I J P n (by omega) ht hE hq) ?_
    exact r_iret dX7_seedLine_38 rfl rfl rfl rfl
  · intro E ex I J P n hn hP
    refine r_aload_n dX11_onceLine_26 rfl ?_
    refine r_iconst (v := 0) dX11_onceLine_27 (by decide) ?_
    refine r_iload_n dX11_onceLine_28 rfl ?_
    refine r_cV2i dX11_onceLine_29 vlX11_251 sh_347 (Nat.le_of_ble_eq_true rfl) (c2 E ex I J P n (by omega) hP) ?_
    refine r_if_ne 37 dX11_onceLine_32 (by decide) (fun c32 => ?_) (fun c32 => ?_)
    · refine r_aload_n dX11_onceLine_37 rfl ?_
      refine r_getR dX11_onceLine_38 flX11_24 sh_347 (by decide) rfl (pf_347_21 hP) ?_
      refine r_iconst (v := 2) dX11_onceLine_41 (by decide) ?_
      refine r_iload_n dX11_onceLine_42 rfl ?_
      refine r_iadd dX11_onceLine_43 ?_
      rw [show (2 : Int32) + 1 = nI 3 by decide]
      refine r_aload_n dX11_onceLine_44 rfl ?_
      refine r_getIv dX11_onceLine_45 flX11_242 sh_347 (by decide) rfl (uR_v (by decide) d7) ?_
      refine r_iasv dX11_onceLine_48 sh_351 (vp_in_nI (n := 3) (by decide) (by decide)) ((congrArg (fun z => xu _ _ z _) (nI_clamp (n := 3) (by decide))).trans (uR_x (by decide) _ _)) ?_
      refine r_iconst (v := 1) dX11_onceLine_49 (by decide) ?_
      exact r_iret dX11_onceLine_50 rfl rfl rfl rfl
    · exact absurd c32 (by decide)
  · have hK : ∀ a k, ¬ (a = 16 ∧ k = 14) → (K4) a k = K4 a k := fun a k z => rfl
    have hM : ∀ a k, ¬ (a = 351 ∧ k = 3) → (xu M4 351 3 (nI x4)) a k = M4 a k := fun a k z => xu_ne (by omega)
    have jf : jF (K4) (xu M4 351 3 (nI x4)) := c3.c (fun a k z => hK a k (by omega)) (fun a k z => hM a k (by omega))
    have jb : jB (K4) := (c4.gb hb1).c (fun a k z => hK a k (by omega))
    refine Qe.m1 ((hl1.tr c4.lf).x (by omega)) jf jb ⟨i4, p4, np, nd, nc, q, by omega, d4.c (fun a k z => hK a k (by omega)) (fun a k z => hM a k (by omega)), jf, ?_, ?_, ?_, ?_, ?_, jb⟩
    · exact gp.c (fun a k z => (hK a k (by omega)).trans (fK a k (by omega))) (fun a k z => (hM a k (by omega)).trans (fM a k (by omega)))
    · exact gd.c (fun a k z => (hK a k (by omega)).trans (fK a k (by omega))) (fun a k z => (hM a k (by omega)).trans (fM a k (by omega)))
    · exact gx.c (fun a k z => (hK a k (by omega)).trans (fK a k (by omega))) (fun a k z => (hM a k (by omega)).trans (fM a k (by omega)))
    · refine ⟨(fK _ _ (by omega)).trans go.1, ?_, ?_, ?_, ?_, (fK _ _ (by omega)).trans go.2.2.2.2.2.1, fun k hk => (fK _ _ (by omega)).trans (go.2.2.2.2.2.2 k hk)⟩
      · rw [fK 500 11 (by omega), hM 350 0 (by omega), fM 350 0 (by omega)]; exact go.2.1
      · rw [y1, hM 350 1 (by omega), y2]
      · rw [fK 16 14 (by omega), hM 351 2 (by omega), fM 351 2 (by omega)]; exact go.2.2.2.1
      · rw [fK 16 14 (by omega)]; exact go.2.2.2.2.1
    · exact gw.c (fun a k z => (hK a k (by omega)).trans (fK a k (by omega))) (fun a k z => (hM a k (by omega)).trans (fM a k (by omega)))
