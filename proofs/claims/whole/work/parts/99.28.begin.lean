/-! a text's beginning on both sides -/
theorem adv0_R {s i : Nat} {K M : Nat → Nat → Int32} (hs : s ≤ 700) (hi : i ≤ s) (e1 : K 28 1 = nI s) (e2 : K 28 2 = nI i) (m1 : M 347 6 = nI s) (m2 : M 347 7 = nI i) (hb : tbR (K 1) (M 348) s) (hw : rRow (M 349) 0 rWords) : ∃ i' p' K' M', i ≤ p' ∧ jT s i' p' K' M' ∧ agT K K' M M' ∧ cRun false 3 yX8_advance (fun _ => [.ref 28]) K none K' ∧ rRun 2 yX11_token [.ref 347] M none M' := by
  obtain ⟨q1, q2, q3, q4, q5⟩ := tok_R hs hb hi (K 28 5) (M 347 9)
  have q6 := cTo_i (K 1) (s := s) (j := cSp (K 1) (s - i) i) q3 (K 28 5)
  refine ⟨(cTo (K 1) s (cSp (K 1) (s - i) i) (K 28 5)).1, cSp (K 1) (s - i) i, wKa K (K 1) s i (K 28 5), wQa M (M 348) rWords s i (M 347 9), q2, ?_, ?_, ?_, ?_⟩
  · refine ⟨hs, q6.2.1, q6.1, ?_, by simp [wKa, wK], by simp [wKa, wK], by simp [wKa, wK], by simp [wQa, wQ], ?_, ?_, ?_, ?_, ?_⟩
    · intro z
      apply q6.2.2
      apply Classical.byContradiction
      intro z2
      apply z
      have : s ≤ cSp (K 1) (s - i) i := by omega
      simp [wKa, wK, cTo, this]
    · simp only [wQa, wQ, if_true]
      rw [if_neg (by decide), q4]
    · simp only [wQa, wQ, if_true]
      rw [if_neg (by decide), if_neg (by decide), if_neg (by decide), if_neg (by decide), q1]
    · have z1 : wKa K (K 1) s i (K 28 5) 28 4 = (cTo (K 1) s (cSp (K 1) (s - i) i) (K 28 5)).2.1 := by simp [wKa, wK]
      have z2 : wKa K (K 1) s i (K 28 5) 28 5 = (cTo (K 1) s (cSp (K 1) (s - i) i) (K 28 5)).2.2 := by simp [wKa, wK]
      have z3 : wQa M (M 348) rWords s i (M 347 9) 347 8 = (rTo (M 348) rWords s (cSp (M 348) (s - i) i) (M 347 9)).2.1 := by simp [wQa, wQ]
      have z4 : wQa M (M 348) rWords s i (M 347 9) 347 9 = (rTo (M 348) rWords s (cSp (M 348) (s - i) i) (M 347 9)).2.2 := by simp [wQa, wQ]
      rw [z1, z2, z3, z4]
      exact q5
    · have z1 : wKa K (K 1) s i (K 28 5) 1 = K 1 := by funext q; simp [wKa, wK]
      have z2 : wQa M (M 348) rWords s i (M 347 9) 348 = M 348 := by funext q; simp [wQa, wQ]
      rw [z1, z2]
      exact hb
    · have z2 : wQa M (M 348) rWords s i (M 347 9) 349 = M 349 := by funext q; simp [wQa, wQ]
      rw [z2]
      exact hw
  · refine ⟨fun a k z => by simp only [wKa, wK, if_neg z], fun a k z => ?_⟩
    simp only [wQa, wQ]
    by_cases z1 : a = 347
    · rw [if_pos z1, if_neg (by omega), if_neg (by omega), if_neg (by omega), if_neg (by omega), if_neg (by omega)]
    · rw [if_neg z1]
  · intro E ex t I J P n hn ht hE hq
    obtain ⟨d, rfl⟩ : ∃ d, n = d + 3 := ⟨n - 3, by omega⟩
    have z := k_advance (E := E) (ex := ex) (I := uC t K I) (J := J) (P := P) hE hq.1 hs hi (K 28 3) (K 28 4) (K 28 5) d
    have y1 : uC t K I 1 = K 1 := funext fun q => uC_c ht (by decide) q
    have y2 : wK (uC t K I) (nI s) (nI i) (K 28 3) (K 28 4) (K 28 5) = uC t K I := by
      have := wK_id (I := K)
      rw [uC_wK ht, ← e1, ← e2, this]
    rw [y1, y2] at z
    exact (congrArg (fun S => xEx E ex (d + 3) yX8_advance [.ref 28] (SH, uC t K I, J, P) none (SH, S, J, P)) (uC_wK ht K I _ _ _ _ _)).mp z
  · intro E ex I J P n hn hP
    obtain ⟨d, rfl⟩ : ∃ d, n = d + 2 := ⟨n - 2, by omega⟩
    have y1 : uR M I 348 = M 348 := funext fun q => uR_r (by decide) q
    have y3 : uR M I 349 = M 349 := funext fun q => uR_r (by decide) q
    have z := k_token (E := E) (ex := ex) (I := uR M I) (J := J) (P := P) hP hs hi (ws := rWords) (by rw [y3]; exact hw) (M 347 8) (M 347 9) (M 347 10) d
    have y2 : wQ (uR M I) (nI s) (nI i) (M 347 8) (M 347 9) (M 347 10) = uR M I := by
      rw [uR_wQ, ← m1, ← m2]
      congr 1
      funext a q
      simp only [wQ]
      by_cases h : a = 347
      · subst h
        simp only [if_true]
        by_cases h1 : q = 6
        · rw [if_pos h1, h1]
        rw [if_neg h1]
        by_cases h1 : q = 7
        · rw [if_pos h1, h1]
        rw [if_neg h1]
        by_cases h1 : q = 8
        · rw [if_pos h1, h1]
        rw [if_neg h1]
        by_cases h1 : q = 9
        · rw [if_pos h1, h1]
        rw [if_neg h1]
        by_cases h1 : q = 10
        · rw [if_pos h1, h1]
        rw [if_neg h1]
      · rw [if_neg h]
    rw [y1, y2] at z
    exact (congrArg (fun S => xEx E ex (d + 2) yX11_token [.ref 347] (SH, uR M I, J, P) none (SH, S, J, P)) (uR_wQ M I _ _ _ _ _)).mp z
set_option maxHeartbeats 1000000 in
theorem lcl_c {K : Nat → Nat → Int32} : cRun false 1 yX2_clear (fun t => [.ref (t + 7)]) K none (xu (xu (xu (xu (xu (xu (xu (xu K 509 0 (-1)) 510 0 (-1)) 509 1 (-1)) 510 1 (-1)) 509 2 (-1)) 510 2 (-1)) 507 5 0) 507 6 0) := by
  intro E ex t I J P n hn ht hE hq
  obtain ⟨d, rfl⟩ : ∃ d, n = d + 1 := ⟨n - 1, by omega⟩
  refine x_enter cqX2_clear [some (.ref (t + 7)), none] rfl (by simp [lg_sl, Value.category]) ?_
  refine r_iconst (v := 0) dX2_clear_0 (by decide) ?_
  refine r_istore_n1 dX2_clear_1 rfl ?_
  refine r_iload_n dX2_clear_2 rfl ?_
  refine r_iconst (v := 3) dX2_clear_3 (by decide) ?_
  refine r_ic_ge 27 dX2_clear_4 (by decide) (fun c4 => ?_) (fun c4 => ?_)
  · exact absurd c4 (by decide)
  · refine r_aload_n dX2_clear_7 rfl ?_
    refine r_getR dX2_clear_8 flX2_17 (tl_w _ ht) (by decide) rfl (tw_p1 hq.1 _ ht) ?_
    refine r_iload_n dX2_clear_11 rfl ?_
    refine r_iconst (v := (-1)) dX2_clear_12 (by decide) ?_
    refine r_iasv dX2_clear_13 (tw_a1 _ ht) (vp_in_nI (n := 0) (by decide) (by decide)) ((congrArg (fun z => xu _ _ z _) (show Int32.toNatClampNeg _ = 0 by decide)).trans (uC_xb (b := 509) (by decide) (by decide) _ _ ht)) ?_
    refine r_aload_n dX2_clear_14 rfl ?_
    refine r_getR dX2_clear_15 flX2_20 (tl_w _ ht) (by decide) rfl (tw_p2 hq.1 _ ht) ?_
    refine r_iload_n dX2_clear_18 rfl ?_
    refine r_iconst (v := (-1)) dX2_clear_19 (by decide) ?_
    refine r_iasv dX2_clear_20 (tw_a2 _ ht) (vp_in_nI (n := 0) (by decide) (by decide)) ((congrArg (fun z => xu _ _ z _) (show Int32.toNatClampNeg _ = 0 by decide)).trans (uC_xb (b := 510) (by decide) (by decide) _ _ ht)) ?_
    refine r_iinc1 (v := 1) dX2_clear_21 (by decide) rfl ?_
    refine r_goto 2 dX2_clear_24 (by decide) ?_
    refine r_iload_n dX2_clear_2 rfl ?_
    refine r_iconst (v := 3) dX2_clear_3 (by decide) ?_
    refine r_ic_ge 27 dX2_clear_4 (by decide) (fun c4 => ?_) (fun c4 => ?_)
    · exact absurd c4 (by decide)
    · refine r_aload_n dX2_clear_7 rfl ?_
      refine r_getR dX2_clear_8 flX2_17 (tl_w _ ht) (by decide) rfl (tw_p1 hq.1 _ ht) ?_
      refine r_iload_n dX2_clear_11 rfl ?_
      refine r_iconst (v := (-1)) dX2_clear_12 (by decide) ?_
      refine r_iasv dX2_clear_13 (tw_a1 _ ht) (vp_in_nI (n := 1) (by decide) (by decide)) ((congrArg (fun z => xu _ _ z _) (show Int32.toNatClampNeg _ = 1 by decide)).trans (uC_xb (b := 509) (by decide) (by decide) _ _ ht)) ?_
      refine r_aload_n dX2_clear_14 rfl ?_
      refine r_getR dX2_clear_15 flX2_20 (tl_w _ ht) (by decide) rfl (tw_p2 hq.1 _ ht) ?_
      refine r_iload_n dX2_clear_18 rfl ?_
      refine r_iconst (v := (-1)) dX2_clear_19 (by decide) ?_
      refine r_iasv dX2_clear_20 (tw_a2 _ ht) (vp_in_nI (n := 1) (by decide) (by decide)) ((congrArg (fun z => xu _ _ z _) (show Int32.toNatClampNeg _ = 1 by decide)).trans (uC_xb (b := 510) (by decide) (by decide) _ _ ht)) ?_
      refine r_iinc1 (v := 1) dX2_clear_21 (by decide) rfl ?_
      refine r_goto 2 dX2_clear_24 (by decide) ?_
      refine r_iload_n dX2_clear_2 rfl ?_
      refine r_iconst (v := 3) dX2_clear_3 (by decide) ?_
      refine r_ic_ge 27 dX2_clear_4 (by decide) (fun c4 => ?_) (fun c4 => ?_)
      · exact absurd c4 (by decide)
      · refine r_aload_n dX2_clear_7 rfl ?_
        refine r_getR dX2_clear_8 flX2_17 (tl_w _ ht) (by decide) rfl (tw_p1 hq.1 _ ht) ?_
        refine r_iload_n dX2_clear_11 rfl ?_
        refine r_iconst (v := (-1)) dX2_clear_12 (by decide) ?_
        refine r_iasv dX2_clear_13 (tw_a1 _ ht) (vp_in_nI (n := 2) (by decide) (by decide)) ((congrArg (fun z => xu _ _ z _) (show Int32.toNatClampNeg _ = 2 by decide)).trans (uC_xb (b := 509) (by decide) (by decide) _ _ ht)) ?_
        refine r_aload_n dX2_clear_14 rfl ?_
        refine r_getR dX2_clear_15 flX2_20 (tl_w _ ht) (by decide) rfl (tw_p2 hq.1 _ ht) ?_
        refine r_iload_n dX2_clear_18 rfl ?_
        refine r_iconst (v := (-1)) dX2_clear_19 (by decide) ?_
        refine r_iasv dX2_clear_20 (tw_a2 _ ht) (vp_in_nI (n := 2) (by decide) (by decide)) ((congrArg (fun z => xu _ _ z _) (show Int32.toNatClampNeg _ = 2 by decide)).trans (uC_xb (b := 510) (by decide) (by decide) _ _ ht)) ?_
        refine r_iinc1 (v := 1) dX2_clear_21 (by decide) rfl ?_
        refine r_goto 2 dX2_clear_24 (by decide) ?_
        refine r_iload_n dX2_clear_2 rfl ?_
        refine r_iconst (v := 3) dX2_clear_3 (by decide) ?_
        refine r_ic_ge 27 dX2_clear_4 (by decide) (fun c4 => ?_) (fun c4 => ?_)
        · refine r_aload_n dX2_clear_27 rfl ?_
          refine r_iconst (v := 0) dX2_clear_28 (by decide) ?_
          refine r_putIv dX2_clear_29 flX2_30 ⟨_, _, _, rfl, Or.inl rfl⟩ (tl_w _ ht) (by decide) rfl rfl rfl (uC_xb (b := 507) (by decide) (by decide) _ _ ht) ?_
          refine r_aload_n dX2_clear_32 rfl ?_
          refine r_iconst (v := 0) dX2_clear_33 (by decide) ?_
          refine r_putIv dX2_clear_34 flX2_34 ⟨_, _, _, rfl, Or.inl rfl⟩ (tl_w _ ht) (by decide) rfl rfl rfl (uC_xb (b := 507) (by decide) (by decide) _ _ ht) ?_
          exact r_vret dX2_clear_37 rfl rfl rfl
        · exact absurd (by decide) c4
set_option maxHeartbeats 1000000 in
theorem tcl_c (K : Nat → Nat → Int32) : ∃ K', cRun false 2 yX6_clear (fun t => [.ref t]) K none K' ∧ (K' 500 3 = 0 ∧ K' 500 7 = 0 ∧ K' 500 9 = 0 ∧ K' 500 10 = 0 ∧ K' 500 11 = 0 ∧ K' 500 12 = 0 ∧ K' 507 5 = 0 ∧ K' 507 6 = 0 ∧ (∀ l, l < 3 → K' 509 l = -1)) ∧ ∀ a k, ¬ (a = 500 ∨ a = 507 ∨ a = 509 ∨ a = 510) → K' a k = K a k := by
  refine ⟨(xu (xu (xu (xu (xu (xu (xu (xu (xu (xu (xu (xu (xu (xu K 500 3 0) 500 7 0) 509 0 (-1)) 510 0 (-1)) 509 1 (-1)) 510 1 (-1)) 509 2 (-1)) 510 2 (-1)) 507 5 0) 507 6 0) 500 9 0) 500 10 0) 500 11 0) 500 12 0), ?_, ⟨((xu_ne (by omega)).trans ((xu_ne (by omega)).trans ((xu_ne (by omega)).trans ((xu_ne (by omega)).trans ((xu_ne (by omega)).trans ((xu_ne (by omega)).trans ((xu_ne (by omega)).trans ((xu_ne (by omega)).trans ((xu_ne (by omega)).trans ((xu_ne (by omega)).trans ((xu_ne (by omega)).trans ((xu_ne (by omega)).trans ((xu_ne (by omega)).trans (xu_s _ _ _ _)))))))))))))), ((xu_ne (by omega)).trans ((xu_ne (by omega)).trans ((xu_ne (by omega)).trans ((xu_ne (by omega)).trans ((xu_ne (by omega)).trans ((xu_ne (by omega)).trans ((xu_ne (by omega)).trans ((xu_ne (by omega)).trans ((xu_ne (by omega)).trans ((xu_ne (by omega)).trans ((xu_ne (by omega)).trans ((xu_ne (by omega)).trans (xu_s _ _ _ _))))))))))))), ((xu_ne (by omega)).trans ((xu_ne (by omega)).trans ((xu_ne (by omega)).trans (xu_s _ _ _ _)))), ((xu_ne (by omega)).trans ((xu_ne (by omega)).trans (xu_s _ _ _ _))), ((xu_ne (by omega)).trans (xu_s _ _ _ _)), (xu_s _ _ _ _), ((xu_ne (by omega)).trans ((xu_ne (by omega)).trans ((xu_ne (by omega)).trans ((xu_ne (by omega)).trans ((xu_ne (by omega)).trans (xu_s _ _ _ _)))))), ((xu_ne (by omega)).trans ((xu_ne (by omega)).trans ((xu_ne (by omega)).trans ((xu_ne (by omega)).trans (xu_s _ _ _ _))))), fun l hl => ?_⟩, fun a k z => ((xu_ne (by omega)).trans ((xu_ne (by omega)).trans ((xu_ne (by omega)).trans ((xu_ne (by omega)).trans ((xu_ne (by omega)).trans ((xu_ne (by omega)).trans ((xu_ne (by omega)).trans ((xu_ne (by omega)).trans ((xu_ne (by omega)).trans ((xu_ne (by omega)).trans ((xu_ne (by omega)).trans ((xu_ne (by omega)).trans ((xu_ne (by omega)).trans (xu_ne (by omega)))))))))))))))⟩
  · intro E ex t I J P n hn ht hE hq
    obtain ⟨d, rfl⟩ : ∃ d, n = d + 1 := ⟨n - 1, by omega⟩
    refine x_enter cqX6_clear [some (.ref t)] rfl (by simp [lg_sl, Value.category]) ?_
    refine r_aload_n dX6_clear_0 rfl ?_
    refine r_iconst (v := 0) dX6_clear_1 (by decide) ?_
    refine r_putIv dX6_clear_2 flX6_40 ⟨_, _, _, rfl, Or.inl rfl⟩ (tl_s _ ht) (by decide) rfl rfl rfl (uC_xt0 _ _ ht) ?_
    refine r_aload_n dX6_clear_5 rfl ?_
    refine r_iconst (v := 0) dX6_clear_6 (by decide) ?_
    refine r_putIv dX6_clear_7 flX6_44 ⟨_, _, _, rfl, Or.inl rfl⟩ (tl_s _ ht) (by decide) rfl rfl rfl (uC_xt0 _ _ ht) ?_
    refine r_aload_n dX6_clear_10 rfl ?_
    refine r_getR dX6_clear_11 flX6_33 (tl_s _ ht) (by decide) rfl (tl_p8 hq.1 _ ht) ?_
    refine r_cV0v dX6_clear_14 vlX6_47 (tl_w _ ht) (Nat.le_of_ble_eq_true rfl) (lcl_c E ex t I J P d (by omega) ht hE hq) ?_
    refine r_aload_n dX6_clear_17 rfl ?_
    refine r_iconst (v := 0) dX6_clear_18 (by decide) ?_
    refine r_putIv dX6_clear_19 flX6_48 ⟨_, _, _, rfl, Or.inl rfl⟩ (tl_s _ ht) (by decide) rfl rfl rfl (uC_xt0 _ _ ht) ?_
    refine r_aload_n dX6_clear_22 rfl ?_
    refine r_iconst (v := 0) dX6_clear_23 (by decide) ?_
    refine r_putIv dX6_clear_24 flX6_51 ⟨_, _, _, rfl, Or.inl rfl⟩ (tl_s _ ht) (by decide) rfl rfl rfl (uC_xt0 _ _ ht) ?_
    refine r_aload_n dX6_clear_27 rfl ?_
    refine r_iconst (v := 0) dX6_clear_28 (by decide) ?_
    refine r_putIv dX6_clear_29 flX6_54 ⟨_, _, _, rfl, Or.inl rfl⟩ (tl_s _ ht) (by decide) rfl rfl rfl (uC_xt0 _ _ ht) ?_
    refine r_aload_n dX6_clear_32 rfl ?_
    refine r_iconst (v := 0) dX6_clear_33 (by decide) ?_
    refine r_putIv dX6_clear_34 flX6_58 ⟨_, _, _, rfl, Or.inl rfl⟩ (tl_s _ ht) (by decide) rfl rfl rfl (uC_xt0 _ _ ht) ?_
    exact r_vret dX6_clear_37 rfl rfl rfl
  · rcases (show l = 0 ∨ l = 1 ∨ l = 2 by omega) with rfl | rfl | rfl
    · exact ((xu_ne (by omega)).trans ((xu_ne (by omega)).trans ((xu_ne (by omega)).trans ((xu_ne (by omega)).trans ((xu_ne (by omega)).trans ((xu_ne (by omega)).trans ((xu_ne (by omega)).trans ((xu_ne (by omega)).trans ((xu_ne (by omega)).trans ((xu_ne (by omega)).trans ((xu_ne (by omega)).trans (xu_s _ _ _ _))))))))))))
    · exact ((xu_ne (by omega)).trans ((xu_ne (by omega)).trans ((xu_ne (by omega)).trans ((xu_ne (by omega)).trans ((xu_ne (by omega)).trans ((xu_ne (by omega)).trans ((xu_ne (by omega)).trans ((xu_ne (by omega)).trans ((xu_ne (by omega)).trans (xu_s _ _ _ _))))))))))
    · exact ((xu_ne (by omega)).trans ((xu_ne (by omega)).trans ((xu_ne (by omega)).trans ((xu_ne (by omega)).trans ((xu_ne (by omega)).trans ((xu_ne (by omega)).trans ((xu_ne (by omega)).trans (xu_s _ _ _ _))))))))
theorem mn7 {s : Nat} (hs : s ≤ 700) : (if (Int32.ofNat 700) < nI s then Int32.ofNat 700 else nI s) = nI s := if_neg (Int32.not_lt.mpr (nI_le (a := s) (b := 700) hs (by decide)))
set_option maxHeartbeats 1000000 in
theorem tbg_c {K : Nat → Nat → Int32} {K' : Nat → Nat → Int32} {s : Nat} (hs : s ≤ 700) (z : cRun false 3 yX8_advance (fun _ => [.ref 28]) (xu (xu K 28 1 (nI s)) 28 2 0) none K') : cRun false 4 yX8_begin (fun _ => [.ref 28, .int (nI s)]) K none K' := by
  refine cAt.run (h := 3) cqX8_begin (ls := [some (.ref 28), some (.int (nI s))]) rfl (by simp [lg_sl, Value.category]) ?_
  intro E ex t I J P n hn ht hE hq
  refine r_aload_n dX8_begin_0 rfl ?_
  refine r_iconst (v := 0) dX8_begin_1 (by decide) ?_
  refine r_iload_n dX8_begin_2 rfl ?_
  refine r_aload_n dX8_begin_3 rfl ?_
  refine r_getR dX8_begin_4 flX8_9 sh_28 (by decide) rfl (pf_28_0 hq.1) ?_
  refine r_alen dX8_begin_7 sh_1 ?_
  refine r_mmin dX8_begin_8 hlX8_15 (Nat.le_of_ble_eq_true rfl) ?_
  rw [mn7 hs]
  refine r_mmax dX8_begin_11 hlX8_21 (Nat.le_of_ble_eq_true rfl) ?_
  rw [mx0 s (by omega)]
  refine r_putIv dX8_begin_14 flX8_24 ⟨_, _, _, rfl, Or.inl rfl⟩ sh_28 (by decide) rfl rfl rfl (uC_xc ht (by decide) _ _) ?_
  refine r_aload_n dX8_begin_17 rfl ?_
  refine r_iconst (v := 0) dX8_begin_18 (by decide) ?_
  refine r_putIv dX8_begin_19 flX8_28 ⟨_, _, _, rfl, Or.inl rfl⟩ sh_28 (by decide) rfl rfl rfl (uC_xc ht (by decide) _ _) ?_
  refine r_aload_n dX8_begin_22 rfl ?_
  refine r_cV0v dX8_begin_23 vlX8_31 sh_28 (Nat.le_of_ble_eq_true rfl) (z E ex t I J P n (by omega) ht hE hq) ?_
  exact r_vret dX8_begin_26 rfl rfl rfl
theorem sZo_v (V : Nat → Nat → Int32) : ∀ n f k, sZo V n f k = if f = 11 ∧ k < n then 0 else V f k
  | 0, f, k => by rw [if_neg (by omega)]; rfl
  | n + 1, f, k => by
    rw [sZo]
    by_cases e : f = 11 ∧ k = n
    · rw [e.1, e.2, xu_s, if_pos (by omega)]
    · rw [xu_ne e, sZo_v V n f k]
      by_cases e2 : f = 11 ∧ k < n
      · rw [if_pos e2, if_pos (by omega)]
      · rw [if_neg e2, if_neg (by omega)]
theorem bcl_v (K : Nat → Nat → Int32) : (∀ k, k < 8 → wB K 16 (sClr (vB K 16)) 27 k = 0) ∧ (∀ k, 12 ≤ k → k < 16 → wB K 16 (sClr (vB K 16)) 16 k = 0) ∧ ∀ a k, ¬ (a = 27 ∨ (a = 16 ∧ 12 ≤ k)) → wB K 16 (sClr (vB K 16)) a k = K a k := by
  refine ⟨fun k hk => ?_, fun k h1 h2 => ?_, fun a k z => ?_⟩
  · rw [wB_a K 16 _ (f := 11) (by decide) (by decide) (by simpa [bl] using hk), sClr, xu_f _ _ (by decide), xu_f _ _ (by decide), xu_f _ _ (by decide), xu_f _ _ (by decide), sZo_v, if_pos ⟨rfl, hk⟩]
  · rw [wB_i K 16 _ ⟨h1, h2⟩, sClr]
    rcases (show k = 12 ∨ k = 13 ∨ k = 14 ∨ k = 15 by omega) with rfl | rfl | rfl | rfl
    · rw [xu_f _ _ (by decide), xu_f _ _ (by decide), xu_f _ _ (by decide), xu_s]
    · rw [xu_f _ _ (by decide), xu_f _ _ (by decide), xu_s]
    · rw [xu_f _ _ (by decide), xu_s]
    · rw [xu_s]
  · by_cases h : a < 16 ∨ 27 < a
    · exact wB_o K 16 _ (by omega) k
    · by_cases h16 : a = 16
      · subst h16
        simp only [wB, if_true]
        rw [if_neg (by omega)]
      · obtain ⟨f, rfl⟩ : ∃ f, a = 16 + f := ⟨a - 16, by omega⟩
        by_cases hk : k < bl f
        · rw [wB_a K 16 _ (f := f) (by omega) (by omega) hk, sClr, xu_f _ _ (by omega), xu_f _ _ (by omega), xu_f _ _ (by omega), xu_f _ _ (by omega), sZo_v, if_neg (by omega)]
          simp only [vB]
          rw [if_pos (by omega)]
        · simp only [wB]
          rw [if_neg (by omega), if_neg (by rw [Nat.add_sub_cancel_left]; omega)]
set_option maxHeartbeats 1000000 in
theorem beg_c {K K1 K' : Nat → Nat → Int32} {s : Nat} (h1 : cRun false 2 yX6_clear (fun t => [.ref t]) (xu (xu K 2 4 0) 2 5 (-1)) none K1) (h3 : cRun false 4 yX8_begin (fun _ => [.ref 28, .int (nI s)]) (wB K1 16 (sClr (vB K1 16))) none K') : ∀ (E : xCl) (ex : Bool) (t : Nat) (I : Nat → Nat → Int32) (J : Nat → Nat → Int64) (P : Nat → Nat → Nat) (n : Nat), 5 ≤ n → t ∈ TL → EW E → Aq false t P → xEx E ex n yX7_begin [.ref 2, .int (nI s)] (SH, uC t K I, J, P) none (SH, uC t K' I, J, xu P 16 0 (t + 1)) := by
  intro E ex t I J P n hn ht hE hq
  obtain ⟨d, rfl⟩ : ∃ d, n = d + 1 := ⟨n - 1, by omega⟩
  have hq2 : Aq false t (xu P 16 0 (t + 1)) := ⟨hq.1.xb hb16 _, (xu_ne (by omega)).trans hq.2.1, fun c => absurd c (by decide)⟩
  have hb := k_clear (E := E) (ex := ex) (I := uC t K1 I) (V := vB (uC t K1 I) 16) (J := J) (P := P) hq.1 hb16 t 0
  rw [wB_vB, vB_uC ht, uC_wB ht] at hb
  refine x_enter cqX7_begin [some (.ref 2), some (.int (nI s))] rfl (by simp [lg_sl, Value.category]) ?_
  refine r_aload_n dX7_begin_0 rfl ?_
  refine r_iconst (v := 0) dX7_begin_1 (by decide) ?_
  refine r_putIv dX7_begin_2 flX7_45 ⟨_, _, _, rfl, Or.inl rfl⟩ sh_2 (by decide) rfl rfl rfl (uC_xc ht (by decide) _ _) ?_
  refine r_aload_n dX7_begin_5 rfl ?_
  refine r_iconst (v := (-1)) dX7_begin_6 (by decide) ?_
  refine r_putIv dX7_begin_7 flX7_49 ⟨_, _, _, rfl, Or.inl rfl⟩ sh_2 (by decide) rfl rfl rfl (uC_xc ht (by decide) _ _) ?_
  refine r_aload_n dX7_begin_10 rfl ?_
  refine r_getR dX7_begin_11 flX7_12 sh_2 (by decide) rfl hq.2.1 ?_
  refine r_cV0v dX7_begin_14 vlX7_52 (tl_s _ ht) (Nat.le_of_ble_eq_true rfl) (h1 E ex t I J P d (by omega) ht hE hq) ?_
  refine r_aload_n dX7_begin_17 rfl ?_
  refine r_getR dX7_begin_18 flX7_23 sh_2 (by decide) rfl (pf_2_3 hq.1) ?_
  refine r_aload_n dX7_begin_21 rfl ?_
  refine r_getR dX7_begin_22 flX7_12 sh_2 (by decide) rfl hq.2.1 ?_
  refine r_cV1v dX7_begin_25 vlX7_55 sh_16 (Nat.le_of_ble_eq_true rfl) (x_le (show 1 ≤ d by omega) hb) ?_
  have hq := hq2
  refine r_aload_n dX7_begin_28 rfl ?_
  refine r_getR dX7_begin_29 flX7_32 sh_2 (by decide) rfl (pf_2_0 hq.1) ?_
  refine r_iload_n dX7_begin_32 rfl ?_
  refine r_cV1v dX7_begin_33 vlX7_57 sh_28 (Nat.le_of_ble_eq_true rfl) (h3 E ex t I J _ d (by omega) ht hE hq2) ?_
  exact r_vret dX7_begin_36 rfl rfl rfl
set_option maxHeartbeats 4000000 in
theorem pln_r (M : Nat → Nat → Int32) : ∃ M', rRun 1 yX11_plain [.ref 347] M none M' ∧ (M' 347 16 = 0 ∧ M' 347 17 = 0 ∧ M' 347 18 = 0 ∧ M' 347 19 = 0 ∧ M' 347 47 = 0 ∧ M' 350 0 = 0 ∧ M' 350 1 = 0 ∧ M' 351 2 = 0 ∧ (∀ j, j < 10 → M' 362 (10 + j) = -1) ∧ (∀ l, l < 3 → M' 366 (3 + l) = 0)) ∧ ∀ a k, ¬ ((a = 347 ∧ ((16 ≤ k ∧ k ≤ 19) ∨ k = 47)) ∨ a = 350 ∨ (a = 351 ∧ 2 ≤ k) ∨ (a = 362 ∧ 10 ≤ k) ∨ (a = 366 ∧ 3 ≤ k)) → M' a k = M a k := by
  refine ⟨(xu (xu (xu (xu (xu (xu (xu (xu (xu (xu (xu (xu (xu (xu (xu (xu (xu (xu (xu (xu (xu (xu M 347 16 0) 347 17 0) 347 18 0) 347 19 0) 347 47 0) 350 0 0) 351 2 0) 350 1 0) 351 3 0) 362 10 (-1)) 362 11 (-1)) 362 12 (-1)) 362 13 (-1)) 362 14 (-1)) 362 15 (-1)) 362 16 (-1)) 362 17 (-1)) 362 18 (-1)) 362 19 (-1)) 366 3 0) 366 4 0) 366 5 0), ?_, ⟨((xu_ne (by omega)).trans ((xu_ne (by omega)).trans ((xu_ne (by omega)).trans ((xu_ne (by omega)).trans ((xu_ne (by omega)).trans ((xu_ne (by omega)).trans ((xu_ne (by omega)).trans ((xu_ne (by omega)).trans ((xu_ne (by omega)).trans ((xu_ne (by omega)).trans ((xu_ne (by omega)).trans ((xu_ne (by omega)).trans ((xu_ne (by omega)).trans ((xu_ne (by omega)).trans ((xu_ne (by omega)).trans ((xu_ne (by omega)).trans ((xu_ne (by omega)).trans ((xu_ne (by omega)).trans ((xu_ne (by omega)).trans ((xu_ne (by omega)).trans ((xu_ne (by omega)).trans (xu_s _ _ _ _)))))))))))))))))))))), ((xu_ne (by omega)).trans ((xu_ne (by omega)).trans ((xu_ne (by omega)).trans ((xu_ne (by omega)).trans ((xu_ne (by omega)).trans ((xu_ne (by omega)).trans ((xu_ne (by omega)).trans ((xu_ne (by omega)).trans ((xu_ne (by omega)).trans ((xu_ne (by omega)).trans ((xu_ne (by omega)).trans ((xu_ne (by omega)).trans ((xu_ne (by omega)).trans ((xu_ne (by omega)).trans ((xu_ne (by omega)).trans ((xu_ne (by omega)).trans ((xu_ne (by omega)).trans ((xu_ne (by omega)).trans ((xu_ne (by omega)).trans ((xu_ne (by omega)).trans (xu_s _ _ _ _))))))))))))))))))))), ((xu_ne (by omega)).trans ((xu_ne (by omega)).trans ((xu_ne (by omega)).trans ((xu_ne (by omega)).trans ((xu_ne (by omega)).trans ((xu_ne (by omega)).trans ((xu_ne (by omega)).trans ((xu_ne (by omega)).trans ((xu_ne (by omega)).trans ((xu_ne (by omega)).trans ((xu_ne (by omega)).trans ((xu_ne (by omega)).trans ((xu_ne (by omega)).trans ((xu_ne (by omega)).trans ((xu_ne (by omega)).trans ((xu_ne (by omega)).trans ((xu_ne (by omega)).trans ((xu_ne (by omega)).trans ((xu_ne (by omega)).trans (xu_s _ _ _ _)))))))))))))))))))), ((xu_ne (by omega)).trans ((xu_ne (by omega)).trans ((xu_ne (by omega)).trans ((xu_ne (by omega)).trans ((xu_ne (by omega)).trans ((xu_ne (by omega)).trans ((xu_ne (by omega)).trans ((xu_ne (by omega)).trans ((xu_ne (by omega)).trans ((xu_ne (by omega)).trans ((xu_ne (by omega)).trans ((xu_ne (by omega)).trans ((xu_ne (by omega)).trans ((xu_ne (by omega)).trans ((xu_ne (by omega)).trans ((xu_ne (by omega)).trans ((xu_ne (by omega)).trans ((xu_ne (by omega)).trans (xu_s _ _ _ _))))))))))))))))))), ((xu_ne (by omega)).trans ((xu_ne (by omega)).trans ((xu_ne (by omega)).trans ((xu_ne (by omega)).trans ((xu_ne (by omega)).trans ((xu_ne (by omega)).trans ((xu_ne (by omega)).trans ((xu_ne (by omega)).trans ((xu_ne (by omega)).trans ((xu_ne (by omega)).trans ((xu_ne (by omega)).trans ((xu_ne (by omega)).trans ((xu_ne (by omega)).trans ((xu_ne (by omega)).trans ((xu_ne (by omega)).trans ((xu_ne (by omega)).trans ((xu_ne (by omega)).trans (xu_s _ _ _ _)))))))))))))))))), ((xu_ne (by omega)).trans ((xu_ne (by omega)).trans ((xu_ne (by omega)).trans ((xu_ne (by omega)).trans ((xu_ne (by omega)).trans ((xu_ne (by omega)).trans ((xu_ne (by omega)).trans ((xu_ne (by omega)).trans ((xu_ne (by omega)).trans ((xu_ne (by omega)).trans ((xu_ne (by omega)).trans ((xu_ne (by omega)).trans ((xu_ne (by omega)).trans ((xu_ne (by omega)).trans ((xu_ne (by omega)).trans ((xu_ne (by omega)).trans (xu_s _ _ _ _))))))))))))))))), ((xu_ne (by omega)).trans ((xu_ne (by omega)).trans ((xu_ne (by omega)).trans ((xu_ne (by omega)).trans ((xu_ne (by omega)).trans ((xu_ne (by omega)).trans ((xu_ne (by omega)).trans ((xu_ne (by omega)).trans ((xu_ne (by omega)).trans ((xu_ne (by omega)).trans ((xu_ne (by omega)).trans ((xu_ne (by omega)).trans ((xu_ne (by omega)).trans ((xu_ne (by omega)).trans (xu_s _ _ _ _))))))))))))))), ((xu_ne (by omega)).trans ((xu_ne (by omega)).trans ((xu_ne (by omega)).trans ((xu_ne (by omega)).trans ((xu_ne (by omega)).trans ((xu_ne (by omega)).trans ((xu_ne (by omega)).trans ((xu_ne (by omega)).trans ((xu_ne (by omega)).trans ((xu_ne (by omega)).trans ((xu_ne (by omega)).trans ((xu_ne (by omega)).trans ((xu_ne (by omega)).trans ((xu_ne (by omega)).trans ((xu_ne (by omega)).trans (xu_s _ _ _ _)))))))))))))))), fun j hj => ?_, fun l hl => ?_⟩, fun a k z => ((xu_ne (by omega)).trans ((xu_ne (by omega)).trans ((xu_ne (by omega)).trans ((xu_ne (by omega)).trans ((xu_ne (by omega)).trans ((xu_ne (by omega)).trans ((xu_ne (by omega)).trans ((xu_ne (by omega)).trans ((xu_ne (by omega)).trans ((xu_ne (by omega)).trans ((xu_ne (by omega)).trans ((xu_ne (by omega)).trans ((xu_ne (by omega)).trans ((xu_ne (by omega)).trans ((xu_ne (by omega)).trans ((xu_ne (by omega)).trans ((xu_ne (by omega)).trans ((xu_ne (by omega)).trans ((xu_ne (by omega)).trans ((xu_ne (by omega)).trans ((xu_ne (by omega)).trans (xu_ne (by omega)))))))))))))))))))))))⟩
  · refine rAt.run (h := 0) cqX11_plain (ls := [some (.ref 347), none]) rfl (by simp [lg_sl, Value.category]) ?_
    intro E ex I J P n hn hP
    refine r_aload_n dX11_plain_0 rfl ?_
    refine r_iconst (v := 0) dX11_plain_1 (by decide) ?_
    refine r_putIv dX11_plain_2 flX11_255 ⟨_, _, _, rfl, Or.inl rfl⟩ sh_347 (by decide) rfl rfl rfl (uR_x (by decide) _ _) ?_
    refine r_aload_n dX11_plain_5 rfl ?_
    refine r_iconst (v := 0) dX11_plain_6 (by decide) ?_
    refine r_putIv dX11_plain_7 flX11_258 ⟨_, _, _, rfl, Or.inl rfl⟩ sh_347 (by decide) rfl rfl rfl (uR_x (by decide) _ _) ?_
    refine r_aload_n dX11_plain_10 rfl ?_
    refine r_iconst (v := 0) dX11_plain_11 (by decide) ?_
    refine r_putIv dX11_plain_12 flX11_261 ⟨_, _, _, rfl, Or.inl rfl⟩ sh_347 (by decide) rfl rfl rfl (uR_x (by decide) _ _) ?_
    refine r_aload_n dX11_plain_15 rfl ?_
    refine r_iconst (v := 0) dX11_plain_16 (by decide) ?_
    refine r_putIv dX11_plain_17 flX11_264 ⟨_, _, _, rfl, Or.inl rfl⟩ sh_347 (by decide) rfl rfl rfl (uR_x (by decide) _ _) ?_
    refine r_aload_n dX11_plain_20 rfl ?_
    refine r_iconst (v := 0) dX11_plain_21 (by decide) ?_
    refine r_putIv dX11_plain_22 flX11_267 ⟨_, _, _, rfl, Or.inl rfl⟩ sh_347 (by decide) rfl rfl rfl (uR_x (by decide) _ _) ?_
    refine r_iconst (v := 0) dX11_plain_25 (by decide) ?_
    refine r_istore_n1 dX11_plain_26 rfl ?_
    refine r_iload_n dX11_plain_27 rfl ?_
    refine r_iconst (v := 2) dX11_plain_28 (by decide) ?_
    refine r_ic_ge 54 dX11_plain_29 (by decide) (fun c29 => ?_) (fun c29 => ?_)
    · exact absurd c29 (by decide)
    · refine r_aload_n dX11_plain_32 rfl ?_
      refine r_getR dX11_plain_33 flX11_20 sh_347 (by decide) rfl (pf_347_20 hP) ?_
      refine r_iload_n dX11_plain_36 rfl ?_
      refine r_iconst (v := 0) dX11_plain_37 (by decide) ?_
      refine r_zasv dX11_plain_38 sh_350 (vp_in_nI (n := 0) (by decide) (by decide)) ((congrArg (fun z => xu _ _ z _) (show Int32.toNatClampNeg _ = 0 by decide)).trans (uR_x (by decide) _ _)) ?_
      refine r_aload_n dX11_plain_39 rfl ?_
      refine r_getR dX11_plain_40 flX11_24 sh_347 (by decide) rfl (pf_347_21 hP) ?_
      refine r_iconst (v := 2) dX11_plain_43 (by decide) ?_
      refine r_iload_n dX11_plain_44 rfl ?_
      refine r_iadd dX11_plain_45 ?_
      refine r_iconst (v := 0) dX11_plain_46 (by decide) ?_
      refine r_iasv dX11_plain_47 sh_351 (vp_in_nI (n := 2) (by decide) (by decide)) ((congrArg (fun z => xu _ _ z _) (show Int32.toNatClampNeg _ = 2 by decide)).trans (uR_x (by decide) _ _)) ?_
      refine r_iinc1 (v := 1) dX11_plain_48 (by decide) rfl ?_
      refine r_goto 27 dX11_plain_51 (by decide) ?_
      refine r_iload_n dX11_plain_27 rfl ?_
      refine r_iconst (v := 2) dX11_plain_28 (by decide) ?_
      refine r_ic_ge 54 dX11_plain_29 (by decide) (fun c29 => ?_) (fun c29 => ?_)
      · exact absurd c29 (by decide)
      · refine r_aload_n dX11_plain_32 rfl ?_
        refine r_getR dX11_plain_33 flX11_20 sh_347 (by decide) rfl (pf_347_20 hP) ?_
        refine r_iload_n dX11_plain_36 rfl ?_
        refine r_iconst (v := 0) dX11_plain_37 (by decide) ?_
        refine r_zasv dX11_plain_38 sh_350 (vp_in_nI (n := 1) (by decide) (by decide)) ((congrArg (fun z => xu _ _ z _) (show Int32.toNatClampNeg _ = 1 by decide)).trans (uR_x (by decide) _ _)) ?_
        refine r_aload_n dX11_plain_39 rfl ?_
        refine r_getR dX11_plain_40 flX11_24 sh_347 (by decide) rfl (pf_347_21 hP) ?_
        refine r_iconst (v := 2) dX11_plain_43 (by decide) ?_
        refine r_iload_n dX11_plain_44 rfl ?_
        refine r_iadd dX11_plain_45 ?_
        refine r_iconst (v := 0) dX11_plain_46 (by decide) ?_
        refine r_iasv dX11_plain_47 sh_351 (vp_in_nI (n := 3) (by decide) (by decide)) ((congrArg (fun z => xu _ _ z _) (show Int32.toNatClampNeg _ = 3 by decide)).trans (uR_x (by decide) _ _)) ?_
        refine r_iinc1 (v := 1) dX11_plain_48 (by decide) rfl ?_
        refine r_goto 27 dX11_plain_51 (by decide) ?_
        refine r_iload_n dX11_plain_27 rfl ?_
        refine r_iconst (v := 2) dX11_plain_28 (by decide) ?_
        refine r_ic_ge 54 dX11_plain_29 (by decide) (fun c29 => ?_) (fun c29 => ?_)
        · refine r_bipush (v := 10) dX11_plain_54 (by decide) ?_
          refine r_istore_n1 dX11_plain_56 rfl ?_
          refine r_iload_n dX11_plain_57 rfl ?_
          refine r_bipush (v := 20) dX11_plain_58 (by decide) ?_
          refine r_ic_ge 76 dX11_plain_60 (by decide) (fun c60 => ?_) (fun c60 => ?_)
          · exact absurd c60 (by decide)
          · refine r_aload_n dX11_plain_63 rfl ?_
            refine r_getR dX11_plain_64 flX11_57 sh_347 (by decide) rfl (pf_347_32 hP) ?_
            refine r_iload_n dX11_plain_67 rfl ?_
            refine r_iconst (v := (-1)) dX11_plain_68 (by decide) ?_
            refine r_iasv dX11_plain_69 sh_362 (vp_in_nI (n := 10) (by decide) (by decide)) ((congrArg (fun z => xu _ _ z _) (show Int32.toNatClampNeg _ = 10 by decide)).trans (uR_x (by decide) _ _)) ?_
            refine r_iinc1 (v := 1) dX11_plain_70 (by decide) rfl ?_
            refine r_goto 57 dX11_plain_73 (by decide) ?_
            refine r_iload_n dX11_plain_57 rfl ?_
            refine r_bipush (v := 20) dX11_plain_58 (by decide) ?_
            refine r_ic_ge 76 dX11_plain_60 (by decide) (fun c60 => ?_) (fun c60 => ?_)
            · exact absurd c60 (by decide)
            · refine r_aload_n dX11_plain_63 rfl ?_
              refine r_getR dX11_plain_64 flX11_57 sh_347 (by decide) rfl (pf_347_32 hP) ?_
              refine r_iload_n dX11_plain_67 rfl ?_
              refine r_iconst (v := (-1)) dX11_plain_68 (by decide) ?_
              refine r_iasv dX11_plain_69 sh_362 (vp_in_nI (n := 11) (by decide) (by decide)) ((congrArg (fun z => xu _ _ z _) (show Int32.toNatClampNeg _ = 11 by decide)).trans (uR_x (by decide) _ _)) ?_
              refine r_iinc1 (v := 1) dX11_plain_70 (by decide) rfl ?_
              refine r_goto 57 dX11_plain_73 (by decide) ?_
              refine r_iload_n dX11_plain_57 rfl ?_
              refine r_bipush (v := 20) dX11_plain_58 (by decide) ?_
              refine r_ic_ge 76 dX11_plain_60 (by decide) (fun c60 => ?_) (fun c60 => ?_)
              · exact absurd c60 (by decide)
              · refine r_aload_n dX11_plain_63 rfl ?_
                refine r_getR dX11_plain_64 flX11_57 sh_347 (by decide) rfl (pf_347_32 hP) ?_
                refine r_iload_n dX11_plain_67 rfl ?_
                refine r_iconst (v := (-1)) dX11_plain_68 (by decide) ?_
                refine r_iasv dX11_plain_69 sh_362 (vp_in_nI (n := 12) (by decide) (by decide)) ((congrArg (fun z => xu _ _ z _) (show Int32.toNatClampNeg _ = 12 by decide)).trans (uR_x (by decide) _ _)) ?_
                refine r_iinc1 (v := 1) dX11_plain_70 (by decide) rfl ?_
                refine r_goto 57 dX11_plain_73 (by decide) ?_
                refine r_iload_n dX11_plain_57 rfl ?_
                refine r_bipush (v := 20) dX11_plain_58 (by decide) ?_
                refine r_ic_ge 76 dX11_plain_60 (by decide) (fun c60 => ?_) (fun c60 => ?_)
                · exact absurd c60 (by decide)
                · refine r_aload_n dX11_plain_63 rfl ?_
                  refine r_getR dX11_plain_64 flX11_57 sh_347 (by decide) rfl (pf_347_32 hP) ?_
                  refine r_iload_n dX11_plain_67 rfl ?_
                  refine r_iconst (v := (-1)) dX11_plain_68 (by decide) ?_
                  refine r_iasv dX11_plain_69 sh_362 (vp_in_nI (n := 13) (by decide) (by decide)) ((congrArg (fun z => xu _ _ z _) (show Int32.toNatClampNeg _ = 13 by decide)).trans (uR_x (by decide) _ _)) ?_
                  refine r_iinc1 (v := 1) dX11_plain_70 (by decide) rfl ?_
                  refine r_goto 57 dX11_plain_73 (by decide) ?_
                  refine r_iload_n dX11_plain_57 rfl ?_
                  refine r_bipush (v := 20) dX11_plain_58 (by decide) ?_
                  refine r_ic_ge 76 dX11_plain_60 (by decide) (fun c60 => ?_) (fun c60 => ?_)
                  · exact absurd c60 (by decide)
                  · refine r_aload_n dX11_plain_63 rfl ?_
                    refine r_getR dX11_plain_64 flX11_57 sh_347 (by decide) rfl (pf_347_32 hP) ?_
                    refine r_iload_n dX11_plain_67 rfl ?_
                    refine r_iconst (v := (-1)) dX11_plain_68 (by decide) ?_
                    refine r_iasv dX11_plain_69 sh_362 (vp_in_nI (n := 14) (by decide) (by decide)) ((congrArg (fun z => xu _ _ z _) (show Int32.toNatClampNeg _ = 14 by decide)).trans (uR_x (by decide) _ _)) ?_
                    refine r_iinc1 (v := 1) dX11_plain_70 (by decide) rfl ?_
                    refine r_goto 57 dX11_plain_73 (by decide) ?_
                    refine r_iload_n dX11_plain_57 rfl ?_
                    refine r_bipush (v := 20) dX11_plain_58 (by decide) ?_
                    refine r_ic_ge 76 dX11_plain_60 (by decide) (fun c60 => ?_) (fun c60 => ?_)
                    · exact absurd c60 (by decide)
                    · refine r_aload_n dX11_plain_63 rfl ?_
                      refine r_getR dX11_plain_64 flX11_57 sh_347 (by decide) rfl (pf_347_32 hP) ?_
                      refine r_iload_n dX11_plain_67 rfl ?_
                      refine r_iconst (v := (-1)) dX11_plain_68 (by decide) ?_
                      refine r_iasv dX11_plain_69 sh_362 (vp_in_nI (n := 15) (by decide) (by decide)) ((congrArg (fun z => xu _ _ z _) (show Int32.toNatClampNeg _ = 15 by decide)).trans (uR_x (by decide) _ _)) ?_
                      refine r_iinc1 (v := 1) dX11_plain_70 (by decide) rfl ?_
                      refine r_goto 57 dX11_plain_73 (by decide) ?_
                      refine r_iload_n dX11_plain_57 rfl ?_
                      refine r_bipush (v := 20) dX11_plain_58 (by decide) ?_
                      refine r_ic_ge 76 dX11_plain_60 (by decide) (fun c60 => ?_) (fun c60 => ?_)
                      · exact absurd c60 (by decide)
                      · refine r_aload_n dX11_plain_63 rfl ?_
                        refine r_getR dX11_plain_64 flX11_57 sh_347 (by decide) rfl (pf_347_32 hP) ?_
                        refine r_iload_n dX11_plain_67 rfl ?_
                        refine r_iconst (v := (-1)) dX11_plain_68 (by decide) ?_
                        refine r_iasv dX11_plain_69 sh_362 (vp_in_nI (n := 16) (by decide) (by decide)) ((congrArg (fun z => xu _ _ z _) (show Int32.toNatClampNeg _ = 16 by decide)).trans (uR_x (by decide) _ _)) ?_
                        refine r_iinc1 (v := 1) dX11_plain_70 (by decide) rfl ?_
                        refine r_goto 57 dX11_plain_73 (by decide) ?_
                        refine r_iload_n dX11_plain_57 rfl ?_
                        refine r_bipush (v := 20) dX11_plain_58 (by decide) ?_
                        refine r_ic_ge 76 dX11_plain_60 (by decide) (fun c60 => ?_) (fun c60 => ?_)
                        · exact absurd c60 (by decide)
                        · refine r_aload_n dX11_plain_63 rfl ?_
                          refine r_getR dX11_plain_64 flX11_57 sh_347 (by decide) rfl (pf_347_32 hP) ?_
                          refine r_iload_n dX11_plain_67 rfl ?_
                          refine r_iconst (v := (-1)) dX11_plain_68 (by decide) ?_
                          refine r_iasv dX11_plain_69 sh_362 (vp_in_nI (n := 17) (by decide) (by decide)) ((congrArg (fun z => xu _ _ z _) (show Int32.toNatClampNeg _ = 17 by decide)).trans (uR_x (by decide) _ _)) ?_
                          refine r_iinc1 (v := 1) dX11_plain_70 (by decide) rfl ?_
                          refine r_goto 57 dX11_plain_73 (by decide) ?_
                          refine r_iload_n dX11_plain_57 rfl ?_
                          refine r_bipush (v := 20) dX11_plain_58 (by decide) ?_
                          refine r_ic_ge 76 dX11_plain_60 (by decide) (fun c60 => ?_) (fun c60 => ?_)
                          · exact absurd c60 (by decide)
                          · refine r_aload_n dX11_plain_63 rfl ?_
                            refine r_getR dX11_plain_64 flX11_57 sh_347 (by decide) rfl (pf_347_32 hP) ?_
                            refine r_iload_n dX11_plain_67 rfl ?_
                            refine r_iconst (v := (-1)) dX11_plain_68 (by decide) ?_
                            refine r_iasv dX11_plain_69 sh_362 (vp_in_nI (n := 18) (by decide) (by decide)) ((congrArg (fun z => xu _ _ z _) (show Int32.toNatClampNeg _ = 18 by decide)).trans (uR_x (by decide) _ _)) ?_
                            refine r_iinc1 (v := 1) dX11_plain_70 (by decide) rfl ?_
                            refine r_goto 57 dX11_plain_73 (by decide) ?_
                            refine r_iload_n dX11_plain_57 rfl ?_
                            refine r_bipush (v := 20) dX11_plain_58 (by decide) ?_
                            refine r_ic_ge 76 dX11_plain_60 (by decide) (fun c60 => ?_) (fun c60 => ?_)
                            · exact absurd c60 (by decide)
                            · refine r_aload_n dX11_plain_63 rfl ?_
                              refine r_getR dX11_plain_64 flX11_57 sh_347 (by decide) rfl (pf_347_32 hP) ?_
                              refine r_iload_n dX11_plain_67 rfl ?_
                              refine r_iconst (v := (-1)) dX11_plain_68 (by decide) ?_
                              refine r_iasv dX11_plain_69 sh_362 (vp_in_nI (n := 19) (by decide) (by decide)) ((congrArg (fun z => xu _ _ z _) (show Int32.toNatClampNeg _ = 19 by decide)).trans (uR_x (by decide) _ _)) ?_
                              refine r_iinc1 (v := 1) dX11_plain_70 (by decide) rfl ?_
                              refine r_goto 57 dX11_plain_73 (by decide) ?_
                              refine r_iload_n dX11_plain_57 rfl ?_
                              refine r_bipush (v := 20) dX11_plain_58 (by decide) ?_
                              refine r_ic_ge 76 dX11_plain_60 (by decide) (fun c60 => ?_) (fun c60 => ?_)
                              · refine r_iconst (v := 3) dX11_plain_76 (by decide) ?_
                                refine r_istore_n1 dX11_plain_77 rfl ?_
                                refine r_iload_n dX11_plain_78 rfl ?_
                                refine r_bipush (v := 6) dX11_plain_79 (by decide) ?_
                                refine r_ic_ge 97 dX11_plain_81 (by decide) (fun c81 => ?_) (fun c81 => ?_)
                                · exact absurd c81 (by decide)
                                · refine r_aload_n dX11_plain_84 rfl ?_
                                  refine r_getR dX11_plain_85 flX11_69 sh_347 (by decide) rfl (pf_347_36 hP) ?_
                                  refine r_iload_n dX11_plain_88 rfl ?_
                                  refine r_iconst (v := 0) dX11_plain_89 (by decide) ?_
                                  refine r_zasv dX11_plain_90 sh_366 (vp_in_nI (n := 3) (by decide) (by decide)) ((congrArg (fun z => xu _ _ z _) (show Int32.toNatClampNeg _ = 3 by decide)).trans (uR_x (by decide) _ _)) ?_
                                  refine r_iinc1 (v := 1) dX11_plain_91 (by decide) rfl ?_
                                  refine r_goto 78 dX11_plain_94 (by decide) ?_
                                  refine r_iload_n dX11_plain_78 rfl ?_
                                  refine r_bipush (v := 6) dX11_plain_79 (by decide) ?_
                                  refine r_ic_ge 97 dX11_plain_81 (by decide) (fun c81 => ?_) (fun c81 => ?_)
                                  · exact absurd c81 (by decide)
                                  · refine r_aload_n dX11_plain_84 rfl ?_
                                    refine r_getR dX11_plain_85 flX11_69 sh_347 (by decide) rfl (pf_347_36 hP) ?_
                                    refine r_iload_n dX11_plain_88 rfl ?_
                                    refine r_iconst (v := 0) dX11_plain_89 (by decide) ?_
                                    refine r_zasv dX11_plain_90 sh_366 (vp_in_nI (n := 4) (by decide) (by decide)) ((congrArg (fun z => xu _ _ z _) (show Int32.toNatClampNeg _ = 4 by decide)).trans (uR_x (by decide) _ _)) ?_
                                    refine r_iinc1 (v := 1) dX11_plain_91 (by decide) rfl ?_
                                    refine r_goto 78 dX11_plain_94 (by decide) ?_
                                    refine r_iload_n dX11_plain_78 rfl ?_
                                    refine r_bipush (v := 6) dX11_plain_79 (by decide) ?_
                                    refine r_ic_ge 97 dX11_plain_81 (by decide) (fun c81 => ?_) (fun c81 => ?_)
                                    · exact absurd c81 (by decide)
                                    · refine r_aload_n dX11_plain_84 rfl ?_
                                      refine r_getR dX11_plain_85 flX11_69 sh_347 (by decide) rfl (pf_347_36 hP) ?_
                                      refine r_iload_n dX11_plain_88 rfl ?_
                                      refine r_iconst (v := 0) dX11_plain_89 (by decide) ?_
                                      refine r_zasv dX11_plain_90 sh_366 (vp_in_nI (n := 5) (by decide) (by decide)) ((congrArg (fun z => xu _ _ z _) (show Int32.toNatClampNeg _ = 5 by decide)).trans (uR_x (by decide) _ _)) ?_
                                      refine r_iinc1 (v := 1) dX11_plain_91 (by decide) rfl ?_
                                      refine r_goto 78 dX11_plain_94 (by decide) ?_
                                      refine r_iload_n dX11_plain_78 rfl ?_
                                      refine r_bipush (v := 6) dX11_plain_79 (by decide) ?_
                                      refine r_ic_ge 97 dX11_plain_81 (by decide) (fun c81 => ?_) (fun c81 => ?_)
                                      · exact r_vret dX11_plain_97 rfl rfl rfl
                                      · exact absurd (by decide) c81
                              · exact absurd (by decide) c60
        · exact absurd (by decide) c29
  · rcases (show j = 0 ∨ j = 1 ∨ j = 2 ∨ j = 3 ∨ j = 4 ∨ j = 5 ∨ j = 6 ∨ j = 7 ∨ j = 8 ∨ j = 9 by omega) with rfl | rfl | rfl | rfl | rfl | rfl | rfl | rfl | rfl | rfl
    · exact ((xu_ne (by omega)).trans ((xu_ne (by omega)).trans ((xu_ne (by omega)).trans ((xu_ne (by omega)).trans ((xu_ne (by omega)).trans ((xu_ne (by omega)).trans ((xu_ne (by omega)).trans ((xu_ne (by omega)).trans ((xu_ne (by omega)).trans ((xu_ne (by omega)).trans ((xu_ne (by omega)).trans ((xu_ne (by omega)).trans (xu_s _ _ _ _)))))))))))))
    · exact ((xu_ne (by omega)).trans ((xu_ne (by omega)).trans ((xu_ne (by omega)).trans ((xu_ne (by omega)).trans ((xu_ne (by omega)).trans ((xu_ne (by omega)).trans ((xu_ne (by omega)).trans ((xu_ne (by omega)).trans ((xu_ne (by omega)).trans ((xu_ne (by omega)).trans ((xu_ne (by omega)).trans (xu_s _ _ _ _))))))))))))
    · exact ((xu_ne (by omega)).trans ((xu_ne (by omega)).trans ((xu_ne (by omega)).trans ((xu_ne (by omega)).trans ((xu_ne (by omega)).trans ((xu_ne (by omega)).trans ((xu_ne (by omega)).trans ((xu_ne (by omega)).trans ((xu_ne (by omega)).trans ((xu_ne (by omega)).trans (xu_s _ _ _ _)))))))))))
    · exact ((xu_ne (by omega)).trans ((xu_ne (by omega)).trans ((xu_ne (by omega)).trans ((xu_ne (by omega)).trans ((xu_ne (by omega)).trans ((xu_ne (by omega)).trans ((xu_ne (by omega)).trans ((xu_ne (by omega)).trans ((xu_ne (by omega)).trans (xu_s _ _ _ _))))))))))
    · exact ((xu_ne (by omega)).trans ((xu_ne (by omega)).trans ((xu_ne (by omega)).trans ((xu_ne (by omega)).trans ((xu_ne (by omega)).trans ((xu_ne (by omega)).trans ((xu_ne (by omega)).trans ((xu_ne (by omega)).trans (xu_s _ _ _ _)))))))))
    · exact ((xu_ne (by omega)).trans ((xu_ne (by omega)).trans ((xu_ne (by omega)).trans ((xu_ne (by omega)).trans ((xu_ne (by omega)).trans ((xu_ne (by omega)).trans ((xu_ne (by omega)).trans (xu_s _ _ _ _))))))))
    · exact ((xu_ne (by omega)).trans ((xu_ne (by omega)).trans ((xu_ne (by omega)).trans ((xu_ne (by omega)).trans ((xu_ne (by omega)).trans ((xu_ne (by omega)).trans (xu_s _ _ _ _)))))))
    · exact ((xu_ne (by omega)).trans ((xu_ne (by omega)).trans ((xu_ne (by omega)).trans ((xu_ne (by omega)).trans ((xu_ne (by omega)).trans (xu_s _ _ _ _))))))
    · exact ((xu_ne (by omega)).trans ((xu_ne (by omega)).trans ((xu_ne (by omega)).trans ((xu_ne (by omega)).trans (xu_s _ _ _ _)))))
    · exact ((xu_ne (by omega)).trans ((xu_ne (by omega)).trans ((xu_ne (by omega)).trans (xu_s _ _ _ _))))
  · rcases (show l = 0 ∨ l = 1 ∨ l = 2 by omega) with rfl | rfl | rfl
    · exact ((xu_ne (by omega)).trans ((xu_ne (by omega)).trans (xu_s _ _ _ _)))
    · exact ((xu_ne (by omega)).trans (xu_s _ _ _ _))
    · exact (xu_s _ _ _ _)
