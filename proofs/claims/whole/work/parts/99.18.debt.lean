/-! lines of both sides: debts -/
theorem bI_or {x n j : Nat} (hx : x < 2 ^ n) (hn : n < 12) (hj : j ≤ n) : bI (nI x ||| nI (2 ^ n)) j = if j = n then 1 else bI (nI x) j := by
  have h31 : x < 2 ^ 31 := Nat.lt_of_lt_of_le hx (Nat.pow_le_pow_right (by decide) (by omega))
  have g31 : x ||| 2 ^ n < 2 ^ 31 := Nat.or_lt_two_pow h31 (pow31 (by omega))
  simp only [bI]
  rw [bz_or, bz_bit g31 (by omega), bz_bit h31 (by omega)]
  by_cases e : j = n
  · subst e
    rw [if_pos rfl, or2_at]
    rfl
  · rw [if_neg e, or2_ne e]
theorem bI_nn {x n : Nat} (hx : x < 2 ^ n) (hn : n < 12) : bI (nI x) n = 0 := by
  have h31 : x < 2 ^ 31 := Nat.lt_of_lt_of_le hx (Nat.pow_le_pow_right (by decide) (by omega))
  simp only [bI]
  rw [bz_bit h31 (by omega), Nat.testBit_lt_two_pow hx]
  rfl
theorem debt_D {np nd : Nat} {K M K' M' : Nat → Nat → Int32} (gd : jD np nd K M) (hd : nd < 10) (hn6 : np ≤ 6) (eK : ∀ a k, ¬ (a = 28 ∨ (a = 2 ∧ k = 6) ∨ (a = 16 ∧ (k = 12 ∨ k = 13)) ∨ (a = 500 ∧ k = 9) ∨ ((19 ≤ a ∧ a ≤ 26) ∧ k = nd)) → K' a k = K a k) (eM : ∀ a k, ¬ ((a = 347 ∧ ((6 ≤ k ∧ k ≤ 11) ∨ k = 17)) ∨ ((356 ≤ a ∧ a ≤ 361) ∧ k = 10 + nd)) → M' a k = M a k) (v1 : K' 16 13 = nI (nd + 1)) (v2 : K' 500 9 = nI (nd + 1)) (v3 : M' 347 17 = nI (nd + 1)) {j1 j2 x1 x2 x3 : Nat} (h1 : j1 < np) (h2 : j2 < np) (h3 : 1 ≤ x1) (h4 : x1 ≤ 999) (h5 : x2 ≤ 99) (k1 : K' 19 nd = nI j1) (k2 : K' 20 nd = nI j2) (k3 : K' 21 nd = nI x1) (k4 : K' 22 nd = nI x2) (k5 : K' 23 nd = nI x3) (k6 : K' 24 nd = 0) (k7 : K' 25 nd = 0) (k8 : K' 26 nd = -1) (m1 : M' 356 (10 + nd) = nI j1) (m2 : M' 357 (10 + nd) = nI j2) (m3 : M' 358 (10 + nd) = nI x1) (m4 : M' 359 (10 + nd) = nI x2) (m5 : M' 360 (10 + nd) = nI x3) (hp : (K' 16 12 = K 16 12 ∧ M' 361 (10 + nd) = 0) ∨ (K' 16 12 = K 16 12 ||| nI (2 ^ nd) ∧ M' 361 (10 + nd) = 1)) : jD np (nd + 1) K' M' := by
  obtain ⟨g0, g1, g2, g3, ⟨x, g4, g4'⟩, g5, g6, g7⟩ := gd
  have hb : ∀ j, j < nd → bI (K' 16 12) j = bI (K 16 12) j := fun j hj => by
    rcases hp with ⟨e, -⟩ | ⟨e, -⟩
    · rw [e]
    · rw [e, g4', bI_or g4 (by omega) (by omega), if_neg (by omega)]
  have hbn : bI (K' 16 12) nd = M' 361 (10 + nd) := by
    rcases hp with ⟨e, e2⟩ | ⟨e, e2⟩
    · rw [e, e2, g4', bI_nn g4 (by omega)]
    · rw [e, e2, g4', bI_or g4 (by omega) (by omega), if_pos rfl]
  refine ⟨by omega, v1, v2, v3, ?_, fun j hj => ?_, fun j z1 z2 => (eM _ _ (by omega)).trans (g6 j (by omega) z2), fun j hj => ?_⟩
  · rcases hp with ⟨e, -⟩ | ⟨e, -⟩
    · exact ⟨x, Nat.lt_of_lt_of_le g4 (Nat.pow_le_pow_right (by decide) (by omega)), e.trans g4'⟩
    · refine ⟨x ||| 2 ^ nd, Nat.or_lt_two_pow (Nat.lt_of_lt_of_le g4 (Nat.pow_le_pow_right (by decide) (by omega))) (Nat.pow_lt_pow_right (by decide) (by omega)), ?_⟩
      rw [e, g4', bz_or]
  · by_cases ej : j = nd
    · subst ej
      rw [k1, k2, k3, k4, k5, k6, k7, k8, m1, m2, m3, m4, m5, hbn, eM 362 _ (by omega)]
      exact ⟨vp_in_nI h1 (by omega), rfl, vp_in_nI h2 (by omega), rfl, rfl, ⟨x1, h3, h4, rfl⟩, rfl, ⟨x2, by omega, h5, rfl⟩, rfl, rfl, rfl, (g6 j (by omega) hd).symm, rfl⟩
    · have w := g5 j (by omega)
      rw [hb j (by omega), eK 19 j (by omega), eK 20 j (by omega), eK 21 j (by omega), eK 22 j (by omega), eK 23 j (by omega), eK 24 j (by omega), eK 25 j (by omega), eK 26 j (by omega), eM 356 _ (by omega), eM 357 _ (by omega), eM 358 _ (by omega), eM 359 _ (by omega), eM 360 _ (by omega), eM 361 _ (by omega), eM 362 _ (by omega)]
      exact w
  · by_cases ej : j = nd
    · subst ej; exact Or.inl k8
    · rw [eK 26 j (by omega)]
      rcases g7 j (by omega) with z | ⟨y, z1, z2, z3, z4⟩
      · exact Or.inl z
      · exact Or.inr ⟨y, by omega, z2, z3, (eK 26 y (by omega)).trans z4⟩
theorem debt_Rl {s i p np nd nc q ln i' p' : Nat} {K M K' M' : Nat → Nat → Int32} (h : Rl s i p np nd nc q ln K M) (g : jT s i' p' K' M') (hd : jD np (nd + 1) K' M') (eK : ∀ a k, ¬ (a = 28 ∨ (a = 2 ∧ k = 6) ∨ (a = 16 ∧ (k = 12 ∨ k = 13)) ∨ (a = 500 ∧ k = 9) ∨ ((19 ≤ a ∧ a ≤ 26) ∧ k = nd)) → K' a k = K a k) (eM : ∀ a k, ¬ ((a = 347 ∧ ((6 ≤ k ∧ k ≤ 11) ∨ k = 17)) ∨ ((356 ≤ a ∧ a ≤ 361) ∧ k = 10 + nd)) → M' a k = M a k) : Rl s i' p' np (nd + 1) nc q ln K' M' := by
  obtain ⟨gt, gf, gp, gd, gx, go, gw, gb⟩ := h
  refine ⟨g, gf.c (fun a k z => eK a k (by omega)) (fun a k z => eM a k (by omega)), gp.c (fun a k z => eK a k (by omega)) (fun a k z => eM a k (by omega)), hd, gx.c (fun a k z => eK a k (by omega)) (fun a k z => eM a k (by omega)), go.c (fun a k z => eK a k (by omega)) (fun a k z => eM a k (by omega)), gw.c (fun a k z => eK a k (by omega)) (fun a k z => eM a k (by omega)), fun k => ?_⟩
  have h6 := gp.1
  by_cases e : k = nd
  · subst e
    have w := hd.2.2.2.2.2.1 k (by omega)
    exact ⟨vp_in_iff.mpr (by have := vp_in_iff.mp w.1; omega), vp_in_iff.mpr (by have := vp_in_iff.mp w.2.2.1; omega), by rw [eK 504 k (by omega)]; exact (gb k).2.2⟩
  · rw [eK 19 k (by omega), eK 20 k (by omega), eK 504 k (by omega)]; exact gb k
set_option maxHeartbeats 1000000 in
theorem addS_c {K : Nat → Nat → Int32} {nd : Nat} (hn0 : nd < 10) (hp : K 16 13 = nI nd) (hy : K 16 15 = 0) (x1 x2 x3 x4 x5 : Int32) : cRun false 1 yX0_addStrand (fun _ => [.ref 16, .int x1, .int x2, .int x3, .int x4, .int x5]) K none (xu (xu (xu (xu (xu (xu (xu (xu (xu K 19 nd x1) 20 nd x2) 21 nd x3) 22 nd x4) 23 nd x5) 24 nd 0) 25 nd 0) 26 nd (-1)) 16 13 (nI (nd + 1))) := by
  refine cAt.run (h := 0) cqX0_addStrand (ls := [some (.ref 16), some (.int x1), some (.int x2), some (.int x3), some (.int x4), some (.int x5)]) rfl (by simp [lg_sl, Value.category]) ?_
  intro E ex t I J P n hn ht hE hq
  refine r_aload_n dX0_addStrand_0 rfl ?_
  refine r_getIv dX0_addStrand_1 flX0_57 sh_16 (by decide) rfl (uC_cv ht (by decide) hp) ?_
  refine r_bipush (v := 12) dX0_addStrand_4 (by decide) ?_
  refine r_ic_ge 104 dX0_addStrand_6 (by decide) (fun c6 => ?_) (fun c6 => ?_)
  · exact absurd c6 (nI_ge (a := nd) (b := 12) (by omega) (by decide))
  · refine r_aload_n dX0_addStrand_9 rfl ?_
    refine r_getR dX0_addStrand_10 flX0_18 sh_16 (by decide) rfl (pf_16_3 hq.1) ?_
    refine r_aload_n dX0_addStrand_13 rfl ?_
    refine r_getIv dX0_addStrand_14 flX0_57 sh_16 (by decide) rfl (uC_cv ht (by decide) hp) ?_
    refine r_iload_n dX0_addStrand_17 rfl ?_
    refine r_iasv dX0_addStrand_18 sh_19 (vp_in_nI (n := nd) (by omega) (by decide)) ((congrArg (fun z => xu _ _ z _) (nI_clamp (n := nd) (by omega))).trans (uC_xc ht (by decide) _ _)) ?_
    refine r_aload_n dX0_addStrand_19 rfl ?_
    refine r_getR dX0_addStrand_20 flX0_21 sh_16 (by decide) rfl (pf_16_4 hq.1) ?_
    refine r_aload_n dX0_addStrand_23 rfl ?_
    refine r_getIv dX0_addStrand_24 flX0_57 sh_16 (by decide) rfl (uC_cv ht (by decide) ((xu_ne (by omega)).trans hp)) ?_
    refine r_iload_n dX0_addStrand_27 rfl ?_
    refine r_iasv dX0_addStrand_28 sh_20 (vp_in_nI (n := nd) (by omega) (by decide)) ((congrArg (fun z => xu _ _ z _) (nI_clamp (n := nd) (by omega))).trans (uC_xc ht (by decide) _ _)) ?_
    refine r_aload_n dX0_addStrand_29 rfl ?_
    refine r_getR dX0_addStrand_30 flX0_24 sh_16 (by decide) rfl (pf_16_5 hq.1) ?_
    refine r_aload_n dX0_addStrand_33 rfl ?_
    refine r_getIv dX0_addStrand_34 flX0_57 sh_16 (by decide) rfl (uC_cv ht (by decide) ((xu_ne (by omega)).trans ((xu_ne (by omega)).trans hp))) ?_
    refine r_iload_n dX0_addStrand_37 rfl ?_
    refine r_iasv dX0_addStrand_38 sh_21 (vp_in_nI (n := nd) (by omega) (by decide)) ((congrArg (fun z => xu _ _ z _) (nI_clamp (n := nd) (by omega))).trans (uC_xc ht (by decide) _ _)) ?_
    refine r_aload_n dX0_addStrand_39 rfl ?_
    refine r_getR dX0_addStrand_40 flX0_27 sh_16 (by decide) rfl (pf_16_6 hq.1) ?_
    refine r_aload_n dX0_addStrand_43 rfl ?_
    refine r_getIv dX0_addStrand_44 flX0_57 sh_16 (by decide) rfl (uC_cv ht (by decide) ((xu_ne (by omega)).trans ((xu_ne (by omega)).trans ((xu_ne (by omega)).trans hp)))) ?_
    refine r_iload dX0_addStrand_47 rfl ?_
    refine r_iasv dX0_addStrand_49 sh_22 (vp_in_nI (n := nd) (by omega) (by decide)) ((congrArg (fun z => xu _ _ z _) (nI_clamp (n := nd) (by omega))).trans (uC_xc ht (by decide) _ _)) ?_
    refine r_aload_n dX0_addStrand_50 rfl ?_
    refine r_getR dX0_addStrand_51 flX0_30 sh_16 (by decide) rfl (pf_16_7 hq.1) ?_
    refine r_aload_n dX0_addStrand_54 rfl ?_
    refine r_getIv dX0_addStrand_55 flX0_57 sh_16 (by decide) rfl (uC_cv ht (by decide) ((xu_ne (by omega)).trans ((xu_ne (by omega)).trans ((xu_ne (by omega)).trans ((xu_ne (by omega)).trans hp))))) ?_
    refine r_iload dX0_addStrand_58 rfl ?_
    refine r_iasv dX0_addStrand_60 sh_23 (vp_in_nI (n := nd) (by omega) (by decide)) ((congrArg (fun z => xu _ _ z _) (nI_clamp (n := nd) (by omega))).trans (uC_xc ht (by decide) _ _)) ?_
    refine r_aload_n dX0_addStrand_61 rfl ?_
    refine r_getR dX0_addStrand_62 flX0_33 sh_16 (by decide) rfl (pf_16_8 hq.1) ?_
    refine r_aload_n dX0_addStrand_65 rfl ?_
    refine r_getIv dX0_addStrand_66 flX0_57 sh_16 (by decide) rfl (uC_cv ht (by decide) ((xu_ne (by omega)).trans ((xu_ne (by omega)).trans ((xu_ne (by omega)).trans ((xu_ne (by omega)).trans ((xu_ne (by omega)).trans hp)))))) ?_
    refine r_aload_n dX0_addStrand_69 rfl ?_
    refine r_getIv dX0_addStrand_70 flX0_63 sh_16 (by decide) rfl (uC_cv ht (by decide) ((xu_ne (by omega)).trans ((xu_ne (by omega)).trans ((xu_ne (by omega)).trans ((xu_ne (by omega)).trans ((xu_ne (by omega)).trans hy)))))) ?_
    refine r_iasv dX0_addStrand_73 sh_24 (vp_in_nI (n := nd) (by omega) (by decide)) ((congrArg (fun z => xu _ _ z _) (nI_clamp (n := nd) (by omega))).trans (uC_xc ht (by decide) _ _)) ?_
    refine r_aload_n dX0_addStrand_74 rfl ?_
    refine r_getR dX0_addStrand_75 flX0_36 sh_16 (by decide) rfl (pf_16_9 hq.1) ?_
    refine r_aload_n dX0_addStrand_78 rfl ?_
    refine r_getIv dX0_addStrand_79 flX0_57 sh_16 (by decide) rfl (uC_cv ht (by decide) ((xu_ne (by omega)).trans ((xu_ne (by omega)).trans ((xu_ne (by omega)).trans ((xu_ne (by omega)).trans ((xu_ne (by omega)).trans ((xu_ne (by omega)).trans hp))))))) ?_
    refine r_iconst (v := 0) dX0_addStrand_82 (by decide) ?_
    refine r_iasv dX0_addStrand_83 sh_25 (vp_in_nI (n := nd) (by omega) (by decide)) ((congrArg (fun z => xu _ _ z _) (nI_clamp (n := nd) (by omega))).trans (uC_xc ht (by decide) _ _)) ?_
    refine r_aload_n dX0_addStrand_84 rfl ?_
    refine r_getR dX0_addStrand_85 flX0_39 sh_16 (by decide) rfl (pf_16_10 hq.1) ?_
    refine r_aload_n dX0_addStrand_88 rfl ?_
    refine r_getIv dX0_addStrand_89 flX0_57 sh_16 (by decide) rfl (uC_cv ht (by decide) ((xu_ne (by omega)).trans ((xu_ne (by omega)).trans ((xu_ne (by omega)).trans ((xu_ne (by omega)).trans ((xu_ne (by omega)).trans ((xu_ne (by omega)).trans ((xu_ne (by omega)).trans hp)))))))) ?_
    refine r_iconst (v := (-1)) dX0_addStrand_92 (by decide) ?_
    refine r_iasv dX0_addStrand_93 sh_26 (vp_in_nI (n := nd) (by omega) (by decide)) ((congrArg (fun z => xu _ _ z _) (nI_clamp (n := nd) (by omega))).trans (uC_xc ht (by decide) _ _)) ?_
    refine r_aload_n dX0_addStrand_94 rfl ?_
    refine r_dup dX0_addStrand_95 rfl ?_
    refine r_getIv dX0_addStrand_96 flX0_57 sh_16 (by decide) rfl (uC_cv ht (by decide) ((xu_ne (by omega)).trans ((xu_ne (by omega)).trans ((xu_ne (by omega)).trans ((xu_ne (by omega)).trans ((xu_ne (by omega)).trans ((xu_ne (by omega)).trans ((xu_ne (by omega)).trans ((xu_ne (by omega)).trans hp))))))))) ?_
    refine r_iconst (v := 1) dX0_addStrand_99 (by decide) ?_
    refine r_iadd dX0_addStrand_100 ?_
    rw [nI_1]
    refine r_putIv dX0_addStrand_101 flX0_57 ⟨_, _, _, rfl, Or.inl rfl⟩ sh_16 (by decide) rfl rfl rfl (uC_xc ht (by decide) _ _) ?_
    exact r_vret dX0_addStrand_104 rfl rfl rfl
set_option maxHeartbeats 8000000 in
theorem debt_2 {s i p np nd nc q ln : Nat} {K M : Nat → Nat → Int32} (h : Rl s i p np nd nc q ln K M) (hd : nd < 10) {i0 p0 : Nat} {K0 M0 : Nat → Nat → Int32} (hp0 : p < p0) (g0 : jT s i0 p0 K0 M0) (eK : ∀ a k, ¬ (a = 28 ∨ (a = 2 ∧ k = 6)) → K0 a k = K a k) (eM : ∀ a k, ¬ ((a = 347 ∧ 6 ≤ k ∧ k ≤ 11) ∨ ((356 ≤ a ∧ a ≤ 357) ∧ k = 10 + nd)) → M0 a k = M a k) {j1 j2 : Nat} (h1 : j1 < np) (h2 : j2 < np) (m1 : M0 356 (10 + nd) = nI j1) (m2 : M0 357 (10 + nd) = nI j2) (w : Int32) : JG (cAt false 4 yX7_debtLine cX7_debtLine (some .boolean) 85 [some (.ref 2), some (.int (nI j1)), some (.int (nI j2)), none, none] [] K0) (rAt 3 yX11_debtLine cX11_debtLine (some .boolean) 110 [some (.ref 347), some (.int (nI (10 + nd))), some (.int w)] [] M0) (Qe M (fun K' M' => ∃ i' p' np' nd' nc' q', p < p' ∧ Rl s i' p' np' nd' nc' q' ln K' M')) := by
  have h' := h
  obtain ⟨gt, gf, gp, gd, gx, go, gw, gb⟩ := h'
  have hf0 : jF K0 M0 := gf.c (fun a k z => eK a k (by omega)) (fun a k z => eM a k (by omega))
  have hb0 : jB K0 := gb.c (fun a k z => eK a k (by omega))
  have hl0 : LF M M0 := LF.dz (c := 10 + nd) (by omega) (fun a k z => eM a k (by omega)) (by rw [m1]; exact vp_in_nI (n := j1) (by have := gp.1; omega) (by decide)) (by rw [m2]; exact vp_in_nI (n := j2) (by have := gp.1; omega) (by decide)) (Or.inl (eM _ _ (by omega)))
  have n6 := gp.1
  obtain ⟨r1, K1, M1, a1, b1, c1, d1, e1⟩ := num_R (lo := 1) (hi := 999) (by decide) (by decide) g0 hf0
  rcases e1 with rfl | ⟨rfl, i1, p1, y1, q11, q12, q13, q14, q15, q16, q17⟩
  · refine JG.fin (r := some (.int 0)) (r' := some (.int 0)) ?_ ?_ (Qe.m0 (hl0.tr d1.lf) c1 (d1.gb hb0))
    · intro E ex t I J P n hn ht hE hq
      refine r_aload_n dX7_debtLine_85 rfl ?_
      refine r_iconst (v := 1) dX7_debtLine_86 (by decide) ?_
      refine r_sipush (v := 999) dX7_debtLine_87 (by decide) ?_
      refine r_cV2i dX7_debtLine_90 vlX7_119 sh_2 (Nat.le_of_ble_eq_true rfl) (a1 E ex t I J P n (by omega) ht hE hq) ?_
      refine r_if_ne 98 dX7_debtLine_93 (by decide) (fun c93 => ?_) (fun c93 => ?_)
      · exact absurd c93 (by decide)
      · refine r_iconst (v := 0) dX7_debtLine_96 (by decide) ?_
        exact r_iret dX7_debtLine_97 rfl rfl rfl rfl
    · intro E ex I J P n hn hP
      refine r_aload_n dX11_debtLine_110 rfl ?_
      refine r_iconst (v := 1) dX11_debtLine_111 (by decide) ?_
      refine r_sipush (v := 999) dX11_debtLine_112 (by decide) ?_
      refine r_cV2i dX11_debtLine_115 vlX11_251 sh_347 (Nat.le_of_ble_eq_true rfl) (b1 E ex I J P n (by omega) hP) ?_
      refine r_if_ne 123 dX11_debtLine_118 (by decide) (fun c118 => ?_) (fun c118 => ?_)
      · exact absurd c118 (by decide)
      · refine r_iconst (v := 0) dX11_debtLine_121 (by decide) ?_
        exact r_iret dX11_debtLine_122 rfl rfl rfl rfl
  apply JG.ca (pc2 := 103)
  · intro r K' hk E ex t I J P n hn ht hE hq
    refine r_aload_n dX7_debtLine_85 rfl ?_
    refine r_iconst (v := 1) dX7_debtLine_86 (by decide) ?_
    refine r_sipush (v := 999) dX7_debtLine_87 (by decide) ?_
    refine r_cV2i dX7_debtLine_90 vlX7_119 sh_2 (Nat.le_of_ble_eq_true rfl) (a1 E ex t I J P n (by omega) ht hE hq) ?_
    refine r_if_ne 98 dX7_debtLine_93 (by decide) (fun c93 => ?_) (fun c93 => ?_)
    · refine r_aload_n dX7_debtLine_98 rfl ?_
      refine r_getIv dX7_debtLine_99 flX7_105 sh_2 (by decide) rfl (uC_cv ht (by decide) q16) ?_
      refine r_istore_n3 dX7_debtLine_102 rfl ?_
      exact hk E ex t I J P n hn ht hE hq
    · exact absurd c93 (by decide)
  apply JG.rb (pc2 := 133)
  · intro r K' hk E ex I J P n hn hP
    refine r_aload_n dX11_debtLine_110 rfl ?_
    refine r_iconst (v := 1) dX11_debtLine_111 (by decide) ?_
    refine r_sipush (v := 999) dX11_debtLine_112 (by decide) ?_
    refine r_cV2i dX11_debtLine_115 vlX11_251 sh_347 (Nat.le_of_ble_eq_true rfl) (b1 E ex I J P n (by omega) hP) ?_
    refine r_if_ne 123 dX11_debtLine_118 (by decide) (fun c118 => ?_) (fun c118 => ?_)
    · refine r_aload_n dX11_debtLine_123 rfl ?_
      refine r_getR dX11_debtLine_124 flX11_45 sh_347 (by decide) rfl (pf_347_28 hP) ?_
      refine r_iload_n dX11_debtLine_127 rfl ?_
      refine r_aload_n dX11_debtLine_128 rfl ?_
      refine r_getIv dX11_debtLine_129 flX11_242 sh_347 (by decide) rfl (uR_v (by decide) q17) ?_
      refine r_iasv dX11_debtLine_132 sh_358 (vp_in_nI (n := 10 + nd) (by omega) (by decide)) ((congrArg (fun z => xu _ _ z _) (nI_clamp (n := 10 + nd) (by omega))).trans (uR_x (by decide) _ _)) ?_
      exact hk E ex I J P n hn hP
    · exact absurd c118 (by decide)
  have g1 : jT s i1 p1 K1 (xu M1 358 (10 + nd) (nI y1)) := q14.c (fun a k z => rfl) (fun a k z => xu_ne (by omega))
  have hf1 : jF K1 (xu M1 358 (10 + nd) (nI y1)) := c1.c (fun a k z => rfl) (fun a k z => xu_ne (by omega))
  have hb1 : jB K1 := d1.gb hb0
  have hl1 : LF M (xu M1 358 (10 + nd) (nI y1)) := (hl0.tr d1.lf).x (by omega)
  obtain ⟨r2, K2, M2, a2, b2, c2, d2, e2⟩ := num_R (lo := 0) (hi := 99) (by decide) (by decide) g1 hf1
  rcases e2 with rfl | ⟨rfl, i2, p2, y2, q21, q22, q23, q24, q25, q26, q27⟩
  · refine JG.fin (r := some (.int 0)) (r' := some (.int 0)) ?_ ?_ (Qe.m0 (hl1.tr d2.lf) c2 (d2.gb hb1))
    · intro E ex t I J P n hn ht hE hq
      refine r_aload_n dX7_debtLine_103 rfl ?_
      refine r_iconst (v := 0) dX7_debtLine_104 (by decide) ?_
      refine r_bipush (v := 99) dX7_debtLine_105 (by decide) ?_
      refine r_cV2i dX7_debtLine_107 vlX7_119 sh_2 (Nat.le_of_ble_eq_true rfl) (a2 E ex t I J P n (by omega) ht hE hq) ?_
      refine r_if_ne 115 dX7_debtLine_110 (by decide) (fun c110 => ?_) (fun c110 => ?_)
      · exact absurd c110 (by decide)
      · refine r_iconst (v := 0) dX7_debtLine_113 (by decide) ?_
        exact r_iret dX7_debtLine_114 rfl rfl rfl rfl
    · intro E ex I J P n hn hP
      refine r_aload_n dX11_debtLine_133 rfl ?_
      refine r_iconst (v := 0) dX11_debtLine_134 (by decide) ?_
      refine r_bipush (v := 99) dX11_debtLine_135 (by decide) ?_
      refine r_cV2i dX11_debtLine_137 vlX11_251 sh_347 (Nat.le_of_ble_eq_true rfl) (b2 E ex I J P n (by omega) hP) ?_
      refine r_if_ne 145 dX11_debtLine_140 (by decide) (fun c140 => ?_) (fun c140 => ?_)
      · exact absurd c140 (by decide)
      · refine r_iconst (v := 0) dX11_debtLine_143 (by decide) ?_
        exact r_iret dX11_debtLine_144 rfl rfl rfl rfl
  apply JG.ca (pc2 := 121)
  · intro r K' hk E ex t I J P n hn ht hE hq
    refine r_aload_n dX7_debtLine_103 rfl ?_
    refine r_iconst (v := 0) dX7_debtLine_104 (by decide) ?_
    refine r_bipush (v := 99) dX7_debtLine_105 (by decide) ?_
    refine r_cV2i dX7_debtLine_107 vlX7_119 sh_2 (Nat.le_of_ble_eq_true rfl) (a2 E ex t I J P n (by omega) ht hE hq) ?_
    refine r_if_ne 115 dX7_debtLine_110 (by decide) (fun c110 => ?_) (fun c110 => ?_)
    · refine r_aload_n dX7_debtLine_115 rfl ?_
      refine r_getIv dX7_debtLine_116 flX7_105 sh_2 (by decide) rfl (uC_cv ht (by decide) q26) ?_
      refine r_istore4 dX7_debtLine_119 rfl ?_
      exact hk E ex t I J P n hn ht hE hq
    · exact absurd c110 (by decide)
  apply JG.rb (pc2 := 155)
  · intro r K' hk E ex I J P n hn hP
    refine r_aload_n dX11_debtLine_133 rfl ?_
    refine r_iconst (v := 0) dX11_debtLine_134 (by decide) ?_
    refine r_bipush (v := 99) dX11_debtLine_135 (by decide) ?_
    refine r_cV2i dX11_debtLine_137 vlX11_251 sh_347 (Nat.le_of_ble_eq_true rfl) (b2 E ex I J P n (by omega) hP) ?_
    refine r_if_ne 145 dX11_debtLine_140 (by decide) (fun c140 => ?_) (fun c140 => ?_)
    · refine r_aload_n dX11_debtLine_145 rfl ?_
      refine r_getR dX11_debtLine_146 flX11_48 sh_347 (by decide) rfl (pf_347_29 hP) ?_
      refine r_iload_n dX11_debtLine_149 rfl ?_
      refine r_aload_n dX11_debtLine_150 rfl ?_
      refine r_getIv dX11_debtLine_151 flX11_242 sh_347 (by decide) rfl (uR_v (by decide) q27) ?_
      refine r_iasv dX11_debtLine_154 sh_359 (vp_in_nI (n := 10 + nd) (by omega) (by decide)) ((congrArg (fun z => xu _ _ z _) (nI_clamp (n := 10 + nd) (by omega))).trans (uR_x (by decide) _ _)) ?_
      exact hk E ex I J P n hn hP
    · exact absurd c140 (by decide)
  have g2 : jT s i2 p2 K2 (xu M2 359 (10 + nd) (nI y2)) := q24.c (fun a k z => rfl) (fun a k z => xu_ne (by omega))
  have hf2 : jF K2 (xu M2 359 (10 + nd) (nI y2)) := c2.c (fun a k z => rfl) (fun a k z => xu_ne (by omega))
  have hb2 : jB K2 := d2.gb hb1
  have hl2 : LF M (xu M2 359 (10 + nd) (nI y2)) := (hl1.tr d2.lf).x (by omega)
  obtain ⟨r3, K3, M3, a3, b3, c3, d3, e3⟩ := num_R (lo := 0) (hi := 99) (by decide) (by decide) g2 hf2
  rcases e3 with rfl | ⟨rfl, i3, p3, y3, q31, q32, q33, q34, q35, q36, q37⟩
  · refine JG.fin (r := some (.int 0)) (r' := some (.int 0)) ?_ ?_ (Qe.m0 (hl2.tr d3.lf) c3 (d3.gb hb2))
    · intro E ex t I J P n hn ht hE hq
      refine r_aload_n dX7_debtLine_121 rfl ?_
      refine r_iconst (v := 0) dX7_debtLine_122 (by decide) ?_
      refine r_bipush (v := 99) dX7_debtLine_123 (by decide) ?_
      refine r_cV2i dX7_debtLine_125 vlX7_119 sh_2 (Nat.le_of_ble_eq_true rfl) (a3 E ex t I J P n (by omega) ht hE hq) ?_
      refine r_if_ne 133 dX7_debtLine_128 (by decide) (fun c128 => ?_) (fun c128 => ?_)
      · exact absurd c128 (by decide)
      · refine r_iconst (v := 0) dX7_debtLine_131 (by decide) ?_
        exact r_iret dX7_debtLine_132 rfl rfl rfl rfl
    · intro E ex I J P n hn hP
      refine r_aload_n dX11_debtLine_155 rfl ?_
      refine r_iconst (v := 0) dX11_debtLine_156 (by decide) ?_
      refine r_bipush (v := 99) dX11_debtLine_157 (by decide) ?_
      refine r_cV2i dX11_debtLine_159 vlX11_251 sh_347 (Nat.le_of_ble_eq_true rfl) (b3 E ex I J P n (by omega) hP) ?_
      refine r_if_ne 167 dX11_debtLine_162 (by decide) (fun c162 => ?_) (fun c162 => ?_)
      · exact absurd c162 (by decide)
      · refine r_iconst (v := 0) dX11_debtLine_165 (by decide) ?_
        exact r_iret dX11_debtLine_166 rfl rfl rfl rfl
  have o0 := g0.2.2.1
  have o1 := g1.2.2.1
  have o2 := g2.2.2.1
  have o3 := q34.2.2.1
  have fK : ∀ a k, ¬ (a = 28 ∨ (a = 2 ∧ k = 6)) → K3 a k = K a k := fun a k z => (q35.1 a k (by omega)).trans ((q25.1 a k (by omega)).trans ((q15.1 a k (by omega)).trans (eK a k (by omega))))
  have fM : ∀ a k, ¬ ((a = 347 ∧ 6 ≤ k ∧ k ≤ 11) ∨ ((356 ≤ a ∧ a ≤ 359) ∧ k = 10 + nd)) → M3 a k = M a k := fun a k z => (q35.2 a k (by omega)).trans ((xu_ne (by omega)).trans ((q25.2 a k (by omega)).trans ((xu_ne (by omega)).trans ((q15.2 a k (by omega)).trans (eM a k (by omega))))))
  have f1 : K3 16 13 = nI nd := (fK _ _ (by omega)).trans gd.2.1
  have f2 : K3 16 15 = 0 := (fK _ _ (by omega)).trans go.2.2.2.2.2.1
  have f3 : M3 347 17 = nI nd := (fM _ _ (by omega)).trans gd.2.2.2.1
  have m5 : M3 356 (10 + nd) = nI j1 := (q35.2 _ _ (by omega)).trans ((xu_ne (by omega)).trans ((q25.2 _ _ (by omega)).trans ((xu_ne (by omega)).trans ((q15.2 _ _ (by omega)).trans m1))))
  have m6 : M3 357 (10 + nd) = nI j2 := (q35.2 _ _ (by omega)).trans ((xu_ne (by omega)).trans ((q25.2 _ _ (by omega)).trans ((xu_ne (by omega)).trans ((q15.2 _ _ (by omega)).trans m2))))
  have m7 : M3 358 (10 + nd) = nI y1 := (q35.2 _ _ (by omega)).trans ((xu_ne (by omega)).trans ((q25.2 _ _ (by omega)).trans (xu_s _ _ _ _)))
  have m8 : M3 359 (10 + nd) = nI y2 := (q35.2 _ _ (by omega)).trans (xu_s _ _ _ _)
  have hK8 : ∀ a k, ¬ ((a = 16 ∧ k = 13) ∨ (a = 500 ∧ k = 9) ∨ ((19 ≤ a ∧ a ≤ 26) ∧ k = nd)) → (xu (xu (xu (xu (xu (xu (xu (xu (xu (xu K3 19 nd (nI j1)) 20 nd (nI j2)) 21 nd (nI y1)) 22 nd (nI y2)) 23 nd (nI y3)) 24 nd 0) 25 nd 0) 26 nd (-1)) 16 13 (nI (nd + 1))) 500 9 (nI (nd + 1))) a k = K3 a k := fun a k z => ((xu_ne (by omega)).trans ((xu_ne (by omega)).trans ((xu_ne (by omega)).trans ((xu_ne (by omega)).trans ((xu_ne (by omega)).trans ((xu_ne (by omega)).trans ((xu_ne (by omega)).trans ((xu_ne (by omega)).trans ((xu_ne (by omega)).trans (xu_ne (by omega)))))))))))
  have k8 : jT s i3 p3 (xu (xu (xu (xu (xu (xu (xu (xu (xu (xu K3 19 nd (nI j1)) 20 nd (nI j2)) 21 nd (nI y1)) 22 nd (nI y2)) 23 nd (nI y3)) 24 nd 0) 25 nd 0) 26 nd (-1)) 16 13 (nI (nd + 1))) 500 9 (nI (nd + 1))) (xu M3 360 (10 + nd) (nI y3)) := q34.c (fun a k z => hK8 a k (by omega)) (fun a k z => xu_ne (by omega))
  apply JG.ca (pc2 := 163)
  · intro r K' hk E ex t I J P n hn ht hE hq
    refine r_aload_n dX7_debtLine_121 rfl ?_
    refine r_iconst (v := 0) dX7_debtLine_122 (by decide) ?_
    refine r_bipush (v := 99) dX7_debtLine_123 (by decide) ?_
    refine r_cV2i dX7_debtLine_125 vlX7_119 sh_2 (Nat.le_of_ble_eq_true rfl) (a3 E ex t I J P n (by omega) ht hE hq) ?_
    refine r_if_ne 133 dX7_debtLine_128 (by decide) (fun c128 => ?_) (fun c128 => ?_)
    · refine r_aload_n dX7_debtLine_133 rfl ?_
      refine r_getR dX7_debtLine_134 flX7_23 sh_2 (by decide) rfl (pf_2_3 hq.1) ?_
      refine r_iload_n dX7_debtLine_137 rfl ?_
      refine r_iload_n dX7_debtLine_138 rfl ?_
      refine r_iload_n dX7_debtLine_139 rfl ?_
      refine r_iload dX7_debtLine_140 rfl ?_
      refine r_aload_n dX7_debtLine_142 rfl ?_
      refine r_getIv dX7_debtLine_143 flX7_105 sh_2 (by decide) rfl (uC_cv ht (by decide) q36) ?_
      refine r_cV5v dX7_debtLine_146 vlX7_142 sh_16 (Nat.le_of_ble_eq_true rfl) (addS_c (by omega) f1 f2 _ _ _ _ _ E ex t I J P n (by omega) ht hE hq) ?_
      refine r_aload_n dX7_debtLine_149 rfl ?_
      refine r_getR dX7_debtLine_150 flX7_12 sh_2 (by decide) rfl hq.2.1 ?_
      refine r_aload_n dX7_debtLine_153 rfl ?_
      refine r_getR dX7_debtLine_154 flX7_23 sh_2 (by decide) rfl (pf_2_3 hq.1) ?_
      refine r_getIv dX7_debtLine_157 flX7_133 sh_16 (by decide) rfl (uC_cv ht (by decide) (xu_s _ _ _ _)) ?_
      refine r_putIv dX7_debtLine_160 flX7_146 ⟨_, _, _, rfl, Or.inl rfl⟩ (tl_s _ ht) (by decide) rfl rfl rfl (uC_xt0 _ _ ht) ?_
      exact hk E ex t I J P n hn ht hE hq
    · exact absurd c128 (by decide)
  apply JG.rb (pc2 := 177)
  · intro r K' hk E ex I J P n hn hP
    refine r_aload_n dX11_debtLine_155 rfl ?_
    refine r_iconst (v := 0) dX11_debtLine_156 (by decide) ?_
    refine r_bipush (v := 99) dX11_debtLine_157 (by decide) ?_
    refine r_cV2i dX11_debtLine_159 vlX11_251 sh_347 (Nat.le_of_ble_eq_true rfl) (b3 E ex I J P n (by omega) hP) ?_
    refine r_if_ne 167 dX11_debtLine_162 (by decide) (fun c162 => ?_) (fun c162 => ?_)
    · refine r_aload_n dX11_debtLine_167 rfl ?_
      refine r_getR dX11_debtLine_168 flX11_51 sh_347 (by decide) rfl (pf_347_30 hP) ?_
      refine r_iload_n dX11_debtLine_171 rfl ?_
      refine r_aload_n dX11_debtLine_172 rfl ?_
      refine r_getIv dX11_debtLine_173 flX11_242 sh_347 (by decide) rfl (uR_v (by decide) q37) ?_
      refine r_iasv dX11_debtLine_176 sh_360 (vp_in_nI (n := 10 + nd) (by omega) (by decide)) ((congrArg (fun z => xu _ _ z _) (nI_clamp (n := 10 + nd) (by omega))).trans (uR_x (by decide) _ _)) ?_
      exact hk E ex I J P n hn hP
    · exact absurd c162 (by decide)
  have k12 : (xu (xu (xu (xu (xu (xu (xu (xu (xu (xu K3 19 nd (nI j1)) 20 nd (nI j2)) 21 nd (nI y1)) 22 nd (nI y2)) 23 nd (nI y3)) 24 nd 0) 25 nd 0) 26 nd (-1)) 16 13 (nI (nd + 1))) 500 9 (nI (nd + 1))) 28 4 = K3 28 4 := hK8 _ _ (by omega)
  rcases k8.tk.key (m := 12) (by decide) with ⟨z1, z2, z3⟩ | ⟨z1, z2⟩
  case inl =>
    have t9 : jT s i3 p3 (xu (xu (xu (xu (xu (xu (xu (xu (xu (xu (xu K3 19 nd (nI j1)) 20 nd (nI j2)) 21 nd (nI y1)) 22 nd (nI y2)) 23 nd (nI y3)) 24 nd 0) 25 nd 0) 26 nd (-1)) 16 13 (nI (nd + 1))) 500 9 (nI (nd + 1))) 16 12 (K3 16 12 ||| nI (2 ^ nd))) (xu (xu M3 360 (10 + nd) (nI y3)) 361 (10 + nd) 1) := k8.c (fun a k z => xu_ne (by omega)) (fun a k z => xu_ne (by omega))
    obtain ⟨i4, p4, K4, M4, u1, u2, u3, u4, u5⟩ := adv_R t9
    refine JG.fin (r := some (.int 1)) (r' := some (.int 1)) (K' := K4) (M' := xu M4 347 17 (nI (nd + 1))) ?_ ?_ ?_
    · intro E ex t I J P n hn ht hE hq
      refine r_aload_n dX7_debtLine_163 rfl ?_
      refine r_getR dX7_debtLine_164 flX7_32 sh_2 (by decide) rfl (pf_2_0 hq.1) ?_
      refine r_getIv dX7_debtLine_167 flX7_61 sh_28 (by decide) rfl (uC_c ht (by decide) _) ?_
      refine r_bipush (v := 12) dX7_debtLine_170 (by decide) ?_
      refine r_ic_ne 205 dX7_debtLine_172 (by decide) (fun c172 => ?_) (fun c172 => ?_)
      · exact absurd z1 c172
      · refine r_aload_n dX7_debtLine_175 rfl ?_
        refine r_getR dX7_debtLine_176 flX7_23 sh_2 (by decide) rfl (pf_2_3 hq.1) ?_
        refine r_dup dX7_debtLine_179 rfl ?_
        refine r_getIv dX7_debtLine_180 flX7_147 sh_16 (by decide) rfl (uC_cv ht (by decide) (hK8 16 12 (by omega))) ?_
        refine r_iconst (v := 1) dX7_debtLine_183 (by decide) ?_
        refine r_aload_n dX7_debtLine_184 rfl ?_
        refine r_getR dX7_debtLine_185 flX7_23 sh_2 (by decide) rfl (pf_2_3 hq.1) ?_
        refine r_getIv dX7_debtLine_188 flX7_133 sh_16 (by decide) rfl (uC_cv ht (by decide) ((xu_ne (by omega)).trans (xu_s _ _ _ _))) ?_
        refine r_iconst (v := 1) dX7_debtLine_191 (by decide) ?_
        refine r_isub dX7_debtLine_192 ?_
        rw [nI_pred]
        refine r_ishl dX7_debtLine_193 ?_
        refine r_ior dX7_debtLine_194 ?_
        rw [bz_shl nd (by omega)]
        refine r_putIv dX7_debtLine_195 flX7_147 ⟨_, _, _, rfl, Or.inl rfl⟩ sh_16 (by decide) rfl rfl rfl (uC_xc ht (by decide) _ _) ?_
        refine r_aload_n dX7_debtLine_198 rfl ?_
        refine r_getR dX7_debtLine_199 flX7_32 sh_2 (by decide) rfl (pf_2_0 hq.1) ?_
        refine r_cV0v dX7_debtLine_202 vlX7_99 sh_28 (Nat.le_of_ble_eq_true rfl) (u4 E ex t I J P n (by omega) ht hE hq) ?_
        refine r_iconst (v := 1) dX7_debtLine_205 (by decide) ?_
        exact r_iret dX7_debtLine_206 rfl rfl rfl rfl
    · intro E ex I J P n hn hP
      refine r_aload_n dX11_debtLine_177 rfl ?_
      refine r_getR dX11_debtLine_178 flX11_54 sh_347 (by decide) rfl (pf_347_31 hP) ?_
      refine r_iload_n dX11_debtLine_181 rfl ?_
      refine r_aload_n dX11_debtLine_182 rfl ?_
      refine r_bipush (v := 9) dX11_debtLine_183 (by decide) ?_
      refine r_cV1i dX11_debtLine_185 vlX11_293 sh_347 (Nat.le_of_ble_eq_true rfl) (isKey_r_t ⟨z2, z3⟩ E ex I J P n (by omega) hP) ?_
      refine r_if_eq 195 dX11_debtLine_188 (by decide) (fun c188 => ?_) (fun c188 => ?_)
      · exact absurd c188 (by decide)
      · refine r_iconst (v := 1) dX11_debtLine_191 (by decide) ?_
        refine r_goto 196 dX11_debtLine_192 (by decide) ?_
        refine r_iasv dX11_debtLine_196 sh_361 (vp_in_nI (n := 10 + nd) (by omega) (by decide)) ((congrArg (fun z => xu _ _ z _) (nI_clamp (n := 10 + nd) (by omega))).trans (uR_x (by decide) _ _)) ?_
        refine r_aload_n dX11_debtLine_197 rfl ?_
        refine r_bipush (v := 9) dX11_debtLine_198 (by decide) ?_
        refine r_cV1i dX11_debtLine_200 vlX11_293 sh_347 (Nat.le_of_ble_eq_true rfl) (isKey_r_t ⟨(xu_ne (by omega)).trans z2, (xu_ne (by omega)).trans z3⟩ E ex I J P n (by omega) hP) ?_
        refine r_if_eq 210 dX11_debtLine_203 (by decide) (fun c203 => ?_) (fun c203 => ?_)
        · exact absurd c203 (by decide)
        · refine r_aload_n dX11_debtLine_206 rfl ?_
          refine r_cV0v dX11_debtLine_207 vlX11_245 sh_347 (Nat.le_of_ble_eq_true rfl) (u5 E ex I J P n (by omega) hP) ?_
          refine r_aload_n dX11_debtLine_210 rfl ?_
          refine r_dup dX11_debtLine_211 rfl ?_
          refine r_getIv dX11_debtLine_212 flX11_258 sh_347 (by decide) rfl (uR_v (by decide) ((u3.2 _ _ (by omega)).trans ((xu_ne (by omega)).trans ((xu_ne (by omega)).trans f3)))) ?_
          refine r_iconst (v := 1) dX11_debtLine_215 (by decide) ?_
          refine r_iadd dX11_debtLine_216 ?_
          rw [nI_1]
          refine r_putIv dX11_debtLine_217 flX11_258 ⟨_, _, _, rfl, Or.inl rfl⟩ sh_347 (by decide) rfl rfl rfl (uR_x (by decide) _ _) ?_
          refine r_iconst (v := 1) dX11_debtLine_220 (by decide) ?_
          exact r_iret dX11_debtLine_221 rfl rfl rfl rfl
    · have hK : ∀ a k, ¬ (a = 28 ∨ (a = 16 ∧ k = 12)) → K4 a k = (xu (xu (xu (xu (xu (xu (xu (xu (xu (xu K3 19 nd (nI j1)) 20 nd (nI j2)) 21 nd (nI y1)) 22 nd (nI y2)) 23 nd (nI y3)) 24 nd 0) 25 nd 0) 26 nd (-1)) 16 13 (nI (nd + 1))) 500 9 (nI (nd + 1))) a k := fun a k z => (u3.1 a k (by omega)).trans (xu_ne (by omega))
      have hM : ∀ a k, ¬ ((a = 347 ∧ ((6 ≤ k ∧ k ≤ 10) ∨ k = 17)) ∨ (a = 361 ∧ k = 10 + nd)) → (xu M4 347 17 (nI (nd + 1))) a k = (xu M3 360 (10 + nd) (nI y3)) a k := fun a k z => (xu_ne (by omega)).trans ((u3.2 a k (by omega)).trans (xu_ne (by omega)))
      have zK : ∀ a k, ¬ (a = 28 ∨ (a = 2 ∧ k = 6) ∨ (a = 16 ∧ (k = 12 ∨ k = 13)) ∨ (a = 500 ∧ k = 9) ∨ ((19 ≤ a ∧ a ≤ 26) ∧ k = nd)) → K4 a k = K a k := fun a k z => (hK a k (by omega)).trans ((hK8 a k (by omega)).trans (fK a k (by omega)))
      have zM : ∀ a k, ¬ ((a = 347 ∧ ((6 ≤ k ∧ k ≤ 11) ∨ k = 17)) ∨ ((356 ≤ a ∧ a ≤ 361) ∧ k = 10 + nd)) → (xu M4 347 17 (nI (nd + 1))) a k = M a k := fun a k z => (hM a k (by omega)).trans ((xu_ne (by omega)).trans (fM a k (by omega)))
      have zD : jD np (nd + 1) K4 (xu M4 347 17 (nI (nd + 1))) := debt_D gd (by omega) n6 zK zM ((hK 16 13 (by omega)).trans ((xu_ne (by omega)).trans (xu_s _ _ _ _))) ((hK 500 9 (by omega)).trans (xu_s _ _ _ _)) (xu_s _ _ _ _) h1 h2 q12 q13 q23 ((hK 19 nd (by omega)).trans ((xu_ne (by omega)).trans ((xu_ne (by omega)).trans ((xu_ne (by omega)).trans ((xu_ne (by omega)).trans ((xu_ne (by omega)).trans ((xu_ne (by omega)).trans ((xu_ne (by omega)).trans ((xu_ne (by omega)).trans ((xu_ne (by omega)).trans (xu_s _ _ _ _))))))))))) ((hK 20 nd (by omega)).trans ((xu_ne (by omega)).trans ((xu_ne (by omega)).trans ((xu_ne (by omega)).trans ((xu_ne (by omega)).trans ((xu_ne (by omega)).trans ((xu_ne (by omega)).trans ((xu_ne (by omega)).trans ((xu_ne (by omega)).trans (xu_s _ _ _ _)))))))))) ((hK 21 nd (by omega)).trans ((xu_ne (by omega)).trans ((xu_ne (by omega)).trans ((xu_ne (by omega)).trans ((xu_ne (by omega)).trans ((xu_ne (by omega)).trans ((xu_ne (by omega)).trans ((xu_ne (by omega)).trans (xu_s _ _ _ _))))))))) ((hK 22 nd (by omega)).trans ((xu_ne (by omega)).trans ((xu_ne (by omega)).trans ((xu_ne (by omega)).trans ((xu_ne (by omega)).trans ((xu_ne (by omega)).trans ((xu_ne (by omega)).trans (xu_s _ _ _ _)))))))) ((hK 23 nd (by omega)).trans ((xu_ne (by omega)).trans ((xu_ne (by omega)).trans ((xu_ne (by omega)).trans ((xu_ne (by omega)).trans ((xu_ne (by omega)).trans (xu_s _ _ _ _))))))) ((hK 24 nd (by omega)).trans ((xu_ne (by omega)).trans ((xu_ne (by omega)).trans ((xu_ne (by omega)).trans ((xu_ne (by omega)).trans (xu_s _ _ _ _)))))) ((hK 25 nd (by omega)).trans ((xu_ne (by omega)).trans ((xu_ne (by omega)).trans ((xu_ne (by omega)).trans (xu_s _ _ _ _))))) ((hK 26 nd (by omega)).trans ((xu_ne (by omega)).trans ((xu_ne (by omega)).trans (xu_s _ _ _ _)))) ((hM 356 _ (by omega)).trans ((xu_ne (by omega)).trans m5)) ((hM 357 _ (by omega)).trans ((xu_ne (by omega)).trans m6)) ((hM 358 _ (by omega)).trans ((xu_ne (by omega)).trans m7)) ((hM 359 _ (by omega)).trans ((xu_ne (by omega)).trans m8)) ((hM 360 _ (by omega)).trans (xu_s _ _ _ _)) (Or.inr ⟨((u3.1 16 12 (by omega)).trans (xu_s _ _ _ _)).trans (by rw [fK 16 12 (by omega)]), (xu_ne (by omega)).trans ((u3.2 _ _ (by omega)).trans (xu_s _ _ _ _))⟩)
      have zR := debt_Rl h (u2.c (fun a k z => rfl) (fun a k z => xu_ne (by omega))) zD zK zM
      have zz := zD.2.2.2.2.2.1 nd (by omega)
      exact Qe.m1 (LF.dz (c := 10 + nd) (by omega) (fun a k z => zM a k (by omega)) (by rw [← zz.2.1]; exact vp_in_iff.mpr (by have := vp_in_iff.mp zz.1; omega)) (by rw [← zz.2.2.2.1]; exact vp_in_iff.mpr (by have := vp_in_iff.mp zz.2.2.1; omega)) (Or.inr (by rw [← zz.2.2.2.2.2.2.2.2.2.2.2.2]; exact bI_01 _ (by omega)))) zR.2.1 zR.2.2.2.2.2.2.2 ⟨i4, p4, np, nd + 1, nc, q, by omega, zR⟩
  refine JG.fin (r := some (.int 1)) (r' := some (.int 1)) (K' := (xu (xu (xu (xu (xu (xu (xu (xu (xu (xu K3 19 nd (nI j1)) 20 nd (nI j2)) 21 nd (nI y1)) 22 nd (nI y2)) 23 nd (nI y3)) 24 nd 0) 25 nd 0) 26 nd (-1)) 16 13 (nI (nd + 1))) 500 9 (nI (nd + 1)))) (M' := xu (xu (xu M3 360 (10 + nd) (nI y3)) 361 (10 + nd) 0) 347 17 (nI (nd + 1))) ?_ ?_ ?_
  · intro E ex t I J P n hn ht hE hq
    refine r_aload_n dX7_debtLine_163 rfl ?_
    refine r_getR dX7_debtLine_164 flX7_32 sh_2 (by decide) rfl (pf_2_0 hq.1) ?_
    refine r_getIv dX7_debtLine_167 flX7_61 sh_28 (by decide) rfl (uC_c ht (by decide) _) ?_
    refine r_bipush (v := 12) dX7_debtLine_170 (by decide) ?_
    refine r_ic_ne 205 dX7_debtLine_172 (by decide) (fun c172 => ?_) (fun c172 => ?_)
    · refine r_iconst (v := 1) dX7_debtLine_205 (by decide) ?_
      exact r_iret dX7_debtLine_206 rfl rfl rfl rfl
    · exact absurd c172 z1
  · intro E ex I J P n hn hP
    refine r_aload_n dX11_debtLine_177 rfl ?_
    refine r_getR dX11_debtLine_178 flX11_54 sh_347 (by decide) rfl (pf_347_31 hP) ?_
    refine r_iload_n dX11_debtLine_181 rfl ?_
    refine r_aload_n dX11_debtLine_182 rfl ?_
    refine r_bipush (v := 9) dX11_debtLine_183 (by decide) ?_
    refine r_cV1i dX11_debtLine_185 vlX11_293 sh_347 (Nat.le_of_ble_eq_true rfl) (isKey_r_f z2 E ex I J P n (by omega) hP) ?_
    refine r_if_eq 195 dX11_debtLine_188 (by decide) (fun c188 => ?_) (fun c188 => ?_)
    · refine r_iconst (v := 0) dX11_debtLine_195 (by decide) ?_
      refine r_iasv dX11_debtLine_196 sh_361 (vp_in_nI (n := 10 + nd) (by omega) (by decide)) ((congrArg (fun z => xu _ _ z _) (nI_clamp (n := 10 + nd) (by omega))).trans (uR_x (by decide) _ _)) ?_
      refine r_aload_n dX11_debtLine_197 rfl ?_
      refine r_bipush (v := 9) dX11_debtLine_198 (by decide) ?_
      refine r_cV1i dX11_debtLine_200 vlX11_293 sh_347 (Nat.le_of_ble_eq_true rfl) (isKey_r_f (fun z => z2 ⟨(xu_ne (by omega)).symm.trans z.1, (xu_ne (by omega)).symm.trans z.2⟩) E ex I J P n (by omega) hP) ?_
      refine r_if_eq 210 dX11_debtLine_203 (by decide) (fun c203 => ?_) (fun c203 => ?_)
      · refine r_aload_n dX11_debtLine_210 rfl ?_
        refine r_dup dX11_debtLine_211 rfl ?_
        refine r_getIv dX11_debtLine_212 flX11_258 sh_347 (by decide) rfl (uR_v (by decide) ((xu_ne (by omega)).trans ((xu_ne (by omega)).trans f3))) ?_
        refine r_iconst (v := 1) dX11_debtLine_215 (by decide) ?_
        refine r_iadd dX11_debtLine_216 ?_
        rw [nI_1]
        refine r_putIv dX11_debtLine_217 flX11_258 ⟨_, _, _, rfl, Or.inl rfl⟩ sh_347 (by decide) rfl rfl rfl (uR_x (by decide) _ _) ?_
        refine r_iconst (v := 1) dX11_debtLine_220 (by decide) ?_
        exact r_iret dX11_debtLine_221 rfl rfl rfl rfl
      · exact absurd c203 (by decide)
    · exact absurd c188 (by decide)
  · have hK : ∀ a k, ¬ (a = 28 ∨ (a = 16 ∧ k = 12)) → (xu (xu (xu (xu (xu (xu (xu (xu (xu (xu K3 19 nd (nI j1)) 20 nd (nI j2)) 21 nd (nI y1)) 22 nd (nI y2)) 23 nd (nI y3)) 24 nd 0) 25 nd 0) 26 nd (-1)) 16 13 (nI (nd + 1))) 500 9 (nI (nd + 1))) a k = (xu (xu (xu (xu (xu (xu (xu (xu (xu (xu K3 19 nd (nI j1)) 20 nd (nI j2)) 21 nd (nI y1)) 22 nd (nI y2)) 23 nd (nI y3)) 24 nd 0) 25 nd 0) 26 nd (-1)) 16 13 (nI (nd + 1))) 500 9 (nI (nd + 1))) a k := fun a k z => rfl
    have hM : ∀ a k, ¬ ((a = 347 ∧ ((6 ≤ k ∧ k ≤ 10) ∨ k = 17)) ∨ (a = 361 ∧ k = 10 + nd)) → (xu (xu (xu M3 360 (10 + nd) (nI y3)) 361 (10 + nd) 0) 347 17 (nI (nd + 1))) a k = (xu M3 360 (10 + nd) (nI y3)) a k := fun a k z => (xu_ne (by omega)).trans (xu_ne (by omega))
    have zK : ∀ a k, ¬ (a = 28 ∨ (a = 2 ∧ k = 6) ∨ (a = 16 ∧ (k = 12 ∨ k = 13)) ∨ (a = 500 ∧ k = 9) ∨ ((19 ≤ a ∧ a ≤ 26) ∧ k = nd)) → (xu (xu (xu (xu (xu (xu (xu (xu (xu (xu K3 19 nd (nI j1)) 20 nd (nI j2)) 21 nd (nI y1)) 22 nd (nI y2)) 23 nd (nI y3)) 24 nd 0) 25 nd 0) 26 nd (-1)) 16 13 (nI (nd + 1))) 500 9 (nI (nd + 1))) a k = K a k := fun a k z => (hK a k (by omega)).trans ((hK8 a k (by omega)).trans (fK a k (by omega)))
    have zM : ∀ a k, ¬ ((a = 347 ∧ ((6 ≤ k ∧ k ≤ 11) ∨ k = 17)) ∨ ((356 ≤ a ∧ a ≤ 361) ∧ k = 10 + nd)) → (xu (xu (xu M3 360 (10 + nd) (nI y3)) 361 (10 + nd) 0) 347 17 (nI (nd + 1))) a k = M a k := fun a k z => (hM a k (by omega)).trans ((xu_ne (by omega)).trans (fM a k (by omega)))
    have zD : jD np (nd + 1) (xu (xu (xu (xu (xu (xu (xu (xu (xu (xu K3 19 nd (nI j1)) 20 nd (nI j2)) 21 nd (nI y1)) 22 nd (nI y2)) 23 nd (nI y3)) 24 nd 0) 25 nd 0) 26 nd (-1)) 16 13 (nI (nd + 1))) 500 9 (nI (nd + 1))) (xu (xu (xu M3 360 (10 + nd) (nI y3)) 361 (10 + nd) 0) 347 17 (nI (nd + 1))) := debt_D gd (by omega) n6 zK zM ((hK 16 13 (by omega)).trans ((xu_ne (by omega)).trans (xu_s _ _ _ _))) ((hK 500 9 (by omega)).trans (xu_s _ _ _ _)) (xu_s _ _ _ _) h1 h2 q12 q13 q23 ((hK 19 nd (by omega)).trans ((xu_ne (by omega)).trans ((xu_ne (by omega)).trans ((xu_ne (by omega)).trans ((xu_ne (by omega)).trans ((xu_ne (by omega)).trans ((xu_ne (by omega)).trans ((xu_ne (by omega)).trans ((xu_ne (by omega)).trans ((xu_ne (by omega)).trans (xu_s _ _ _ _))))))))))) ((hK 20 nd (by omega)).trans ((xu_ne (by omega)).trans ((xu_ne (by omega)).trans ((xu_ne (by omega)).trans ((xu_ne (by omega)).trans ((xu_ne (by omega)).trans ((xu_ne (by omega)).trans ((xu_ne (by omega)).trans ((xu_ne (by omega)).trans (xu_s _ _ _ _)))))))))) ((hK 21 nd (by omega)).trans ((xu_ne (by omega)).trans ((xu_ne (by omega)).trans ((xu_ne (by omega)).trans ((xu_ne (by omega)).trans ((xu_ne (by omega)).trans ((xu_ne (by omega)).trans ((xu_ne (by omega)).trans (xu_s _ _ _ _))))))))) ((hK 22 nd (by omega)).trans ((xu_ne (by omega)).trans ((xu_ne (by omega)).trans ((xu_ne (by omega)).trans ((xu_ne (by omega)).trans ((xu_ne (by omega)).trans ((xu_ne (by omega)).trans (xu_s _ _ _ _)))))))) ((hK 23 nd (by omega)).trans ((xu_ne (by omega)).trans ((xu_ne (by omega)).trans ((xu_ne (by omega)).trans ((xu_ne (by omega)).trans ((xu_ne (by omega)).trans (xu_s _ _ _ _))))))) ((hK 24 nd (by omega)).trans ((xu_ne (by omega)).trans ((xu_ne (by omega)).trans ((xu_ne (by omega)).trans ((xu_ne (by omega)).trans (xu_s _ _ _ _)))))) ((hK 25 nd (by omega)).trans ((xu_ne (by omega)).trans ((xu_ne (by omega)).trans ((xu_ne (by omega)).trans (xu_s _ _ _ _))))) ((hK 26 nd (by omega)).trans ((xu_ne (by omega)).trans ((xu_ne (by omega)).trans (xu_s _ _ _ _)))) ((hM 356 _ (by omega)).trans ((xu_ne (by omega)).trans m5)) ((hM 357 _ (by omega)).trans ((xu_ne (by omega)).trans m6)) ((hM 358 _ (by omega)).trans ((xu_ne (by omega)).trans m7)) ((hM 359 _ (by omega)).trans ((xu_ne (by omega)).trans m8)) ((hM 360 _ (by omega)).trans (xu_s _ _ _ _)) (Or.inl ⟨(hK8 16 12 (by omega)).trans (fK 16 12 (by omega)), (xu_ne (by omega)).trans (xu_s _ _ _ _)⟩)
    have zR := debt_Rl h (k8.c (fun a k z => rfl) (fun a k z => (xu_ne (by omega)).trans (xu_ne (by omega)))) zD zK zM
    have zz := zD.2.2.2.2.2.1 nd (by omega)
    exact Qe.m1 (LF.dz (c := 10 + nd) (by omega) (fun a k z => zM a k (by omega)) (by rw [← zz.2.1]; exact vp_in_iff.mpr (by have := vp_in_iff.mp zz.1; omega)) (by rw [← zz.2.2.2.1]; exact vp_in_iff.mpr (by have := vp_in_iff.mp zz.2.2.1; omega)) (Or.inr (by rw [← zz.2.2.2.2.2.2.2.2.2.2.2.2]; exact bI_01 _ (by omega)))) zR.2.1 zR.2.2.2.2.2.2.2 ⟨i3, p3, np, nd + 1, nc, q, by omega, zR⟩
