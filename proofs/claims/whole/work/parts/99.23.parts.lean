/-! laws on both sides: a part whole -/
set_option maxHeartbeats 8000000 in
theorem part_J {s0 q cnt n ba h : Nat} {hs : List Nat} {s i p : Nat} {K M : Nat → Nat → Int32} (z : jR s0 q cnt n ba h hs 1 K M) (gt : jT s i p K M) : JG (cAt true 2 yX1_part cX1_part (some .int) 0 [some (.ref 29), none, none] [] K) (rAt 3 yX11_leafRead cX11_leafRead (some .boolean) 0 [some (.ref 347), none] [] M) (Qq s0 q s i p K M) := by
  have z' := z
  obtain ⟨z1, z2, z3, z4, ⟨c, z5, z6⟩, e1, e2, e3, e4, e5, e6, e7, e8, e9, e10, e11, e12, e13, e14, e15, e16⟩ := z'
  have hle := z5.le
  have h72 := z.n72
  rcases gt.tk.sgn (k0 := 33) (w0 := 40) (Or.inr (Or.inl ⟨rfl, rfl⟩)) with ⟨y1, y2, y3⟩ | ⟨y1, y2⟩
  · by_cases ha : ba = 8
    · subst ha
      refine JG.fin (r := some (.int 2)) (r' := some (.int 0)) (K' := K) (M' := fR M 2) ?_ ?_ ?_
      · intro E ex t I J P n hn ht hE hq
        refine r_aload_n dX1_part_0 rfl ?_
        refine r_getR dX1_part_1 flX1_15 sh_29 (by decide) rfl (pf_29_0 hq.1) ?_
        refine r_getIv dX1_part_4 flX1_68 sh_28 (by decide) rfl (uC_c ht (by decide) _) ?_
        refine r_istore_n1 dX1_part_7 rfl ?_
        refine r_iload_n dX1_part_8 rfl ?_
        refine r_bipush (v := 33) dX1_part_9 (by decide) ?_
        refine r_ic_ne 19 dX1_part_11 (by decide) (fun c11 => ?_) (fun c11 => ?_)
        · exact absurd y1 c11
        · refine r_aload_n dX1_part_14 rfl ?_
          refine r_cV0i dX1_part_15 vlX1_71 sh_29 (Nat.le_of_ble_eq_true rfl) (ob_f e3 E ex t I J P n (by omega) ht hE hq) ?_
          exact r_iret dX1_part_18 rfl rfl rfl rfl
      · intro E ex I J P n hn hP
        refine r_aload_n dX11_leafRead_0 rfl ?_
        refine r_bipush (v := 40) dX11_leafRead_1 (by decide) ?_
        refine r_cV1i dX11_leafRead_3 vlX11_248 sh_347 (Nat.le_of_ble_eq_true rfl) (isSign_r_t ⟨y2, y3⟩ E ex I J P n (by omega) hP) ?_
        refine r_if_eq 50 dX11_leafRead_6 (by decide) (fun c6 => ?_) (fun c6 => ?_)
        · exact absurd c6 (by decide)
        · refine r_aload_n dX11_leafRead_9 rfl ?_
          refine r_getIv dX11_leafRead_10 flX11_342 sh_347 (by decide) rfl (uR_v (by decide) e4) ?_
          refine r_bipush (v := 8) dX11_leafRead_13 (by decide) ?_
          refine r_ic_ne 24 dX11_leafRead_15 (by decide) (fun c15 => ?_) (fun c15 => ?_)
          · exact absurd (by decide) c15
          · refine r_aload_n dX11_leafRead_18 rfl ?_
            refine r_iconst (v := 2) dX11_leafRead_19 (by decide) ?_
            refine r_cV1i dX11_leafRead_20 vlX11_235 sh_347 (Nat.le_of_ble_eq_true rfl) (wrong_r 2 E ex I J P n (by omega) hP) ?_
            exact r_iret dX11_leafRead_23 rfl rfl rfl rfl
      · exact Qq.bad (Or.inr rfl) rfl rfl (agL.rf q K M)
    have hK : ∀ a k, ¬ ((a = 29 ∧ (k = 2 ∨ k = 3 ∨ k = 5)) ∨ (a = 30 ∧ k = n)) → (xu (xu (xu (xu K 29 3 (nI (ba + 1))) 30 n 33) 29 2 (nI (n + 1))) 29 5 1) a k = K a k := fun a k z => ((xu_ne (by omega)).trans ((xu_ne (by omega)).trans ((xu_ne (by omega)).trans (xu_ne (by omega)))))
    have hM : ∀ a k, ¬ ((a = 347 ∧ (k = 46 ∨ k = 44 ∨ k = 49)) ∨ (a = 372 ∧ k = n)) → (xu (xu (xu (xu M 347 46 (nI (ba + 1))) 372 n 0) 347 44 (nI (n + 1))) 347 49 1) a k = M a k := fun a k z => ((xu_ne (by omega)).trans ((xu_ne (by omega)).trans ((xu_ne (by omega)).trans (xu_ne (by omega)))))
    have t1 : jT s i p (xu (xu (xu (xu K 29 3 (nI (ba + 1))) 30 n 33) 29 2 (nI (n + 1))) 29 5 1) (xu (xu (xu (xu M 347 46 (nI (ba + 1))) 372 n 0) 347 44 (nI (n + 1))) 347 49 1) := gt.c (fun a k z => hK a k (by omega)) (fun a k z => hM a k (by omega))
    obtain ⟨i1, p1, K1, M1, a1, a2, a3, a4, a5⟩ := adv_R t1
    have r1 : jR s0 q cnt (n + 1) (ba + 1) h hs 1 (xu (xu (xu (xu K 29 3 (nI (ba + 1))) 30 n 33) 29 2 (nI (n + 1))) 29 5 1) (xu (xu (xu (xu M 347 46 (nI (ba + 1))) 372 n 0) 347 44 (nI (n + 1))) 347 49 1) := z.push (c' := c) (kc := 33) (kr := 0) (Or.inl ⟨rfl, rfl⟩) z2 (by omega) (by omega) (Or.inl ⟨rfl, ba, rfl, z5⟩) (by simpa using z6) ((xu_ne (by omega)).trans (xu_s _ _ _ _)) ((xu_ne (by omega)).trans (xu_s _ _ _ _)) ((xu_ne (by omega)).trans ((xu_ne (by omega)).trans ((xu_ne (by omega)).trans (xu_s _ _ _ _)))) ((xu_ne (by omega)).trans ((xu_ne (by omega)).trans ((xu_ne (by omega)).trans (xu_s _ _ _ _)))) ((hK _ _ (by omega)).trans e5) ((hM _ _ (by omega)).trans e6) ((xu_s _ _ _ _).trans (xu_s _ _ _ _).symm) ((hK _ _ (by omega)).trans e10) ((hM _ _ (by omega)).trans e11) ((xu_ne (by omega)).trans ((xu_ne (by omega)).trans (xu_s _ _ _ _))) ((xu_ne (by omega)).trans ((xu_ne (by omega)).trans (xu_s _ _ _ _))) (fun a k z => hK a k (by omega)) (fun a k z => hM a k (by omega))
    refine JG.fin (r := some (.int 0)) (r' := some (.int 1)) (K' := xu (xu (xu (xu K 29 3 (nI (ba + 1))) 30 n 33) 29 2 (nI (n + 1))) 29 5 1) (M' := M1) ?_ ?_ ?_
    · intro E ex t I J P n hn ht hE hq
      refine r_aload_n dX1_part_0 rfl ?_
      refine r_getR dX1_part_1 flX1_15 sh_29 (by decide) rfl (pf_29_0 hq.1) ?_
      refine r_getIv dX1_part_4 flX1_68 sh_28 (by decide) rfl (uC_c ht (by decide) _) ?_
      refine r_istore_n1 dX1_part_7 rfl ?_
      refine r_iload_n dX1_part_8 rfl ?_
      refine r_bipush (v := 33) dX1_part_9 (by decide) ?_
      refine r_ic_ne 19 dX1_part_11 (by decide) (fun c11 => ?_) (fun c11 => ?_)
      · exact absurd y1 c11
      · refine r_aload_n dX1_part_14 rfl ?_
        refine r_cV0i dX1_part_15 vlX1_71 sh_29 (Nat.le_of_ble_eq_true rfl) (ob_t e3 (by omega) e1 (by omega) E ex t I J P n (by omega) ht hE hq) ?_
        exact r_iret dX1_part_18 rfl rfl rfl rfl
    · intro E ex I J P n hn hP
      refine r_aload_n dX11_leafRead_0 rfl ?_
      refine r_bipush (v := 40) dX11_leafRead_1 (by decide) ?_
      refine r_cV1i dX11_leafRead_3 vlX11_248 sh_347 (Nat.le_of_ble_eq_true rfl) (isSign_r_t ⟨y2, y3⟩ E ex I J P n (by omega) hP) ?_
      refine r_if_eq 50 dX11_leafRead_6 (by decide) (fun c6 => ?_) (fun c6 => ?_)
      · exact absurd c6 (by decide)
      · refine r_aload_n dX11_leafRead_9 rfl ?_
        refine r_getIv dX11_leafRead_10 flX11_342 sh_347 (by decide) rfl (uR_v (by decide) e4) ?_
        refine r_bipush (v := 8) dX11_leafRead_13 (by decide) ?_
        refine r_ic_ne 24 dX11_leafRead_15 (by decide) (fun c15 => ?_) (fun c15 => ?_)
        · refine r_aload_n dX11_leafRead_24 rfl ?_
          refine r_dup dX11_leafRead_25 rfl ?_
          refine r_getIv dX11_leafRead_26 flX11_342 sh_347 (by decide) rfl (uR_v (by decide) e4) ?_
          refine r_iconst (v := 1) dX11_leafRead_29 (by decide) ?_
          refine r_iadd dX11_leafRead_30 ?_
          rw [nI_1]
          refine r_putIv dX11_leafRead_31 flX11_342 ⟨_, _, _, rfl, Or.inl rfl⟩ sh_347 (by decide) rfl rfl rfl (uR_x (by decide) _ _) ?_
          refine r_aload_n dX11_leafRead_34 rfl ?_
          refine r_iconst (v := 0) dX11_leafRead_35 (by decide) ?_
          refine r_cV1v dX11_leafRead_36 vlX11_345 sh_347 (Nat.le_of_ble_eq_true rfl) (wf_r ((xu_ne (by omega)).trans e2) (by omega) 0 E ex I J P n (by omega) hP) ?_
          refine r_aload_n dX11_leafRead_39 rfl ?_
          refine r_iconst (v := 1) dX11_leafRead_40 (by decide) ?_
          refine r_putIv dX11_leafRead_41 flX11_349 ⟨_, _, _, rfl, Or.inl rfl⟩ sh_347 (by decide) rfl rfl rfl (uR_x (by decide) _ _) ?_
          refine r_aload_n dX11_leafRead_44 rfl ?_
          refine r_cV0v dX11_leafRead_45 vlX11_245 sh_347 (Nat.le_of_ble_eq_true rfl) (a5 E ex I J P n (by omega) hP) ?_
          refine r_iconst (v := 1) dX11_leafRead_48 (by decide) ?_
          exact r_iret dX11_leafRead_49 rfl rfl rfl rfl
        · exact absurd ((nI_eq (a := ba) (b := 8) (by omega) (by decide)).mp c15) ha
    · exact Qq.good a4 (gt.2.2.2.1 (by rw [y1]; decide)) a1 a2 a3 (Nat.le_refl _) r1 (Or.inr rfl) ⟨fun a k z => hK a k (by omega), fun a k z => hM a k (by omega)⟩ (hM _ _ (by omega)) (hM _ _ (by omega))
  rcases gt.tk.key (m := 22) (by decide) with ⟨y3, y4, y5⟩ | ⟨y3, y4⟩
  case inr =>
    apply JG.ca (pc2 := 37)
    · intro r K' hk E ex t I J P n hn ht hE hq
      refine r_aload_n dX1_part_0 rfl ?_
      refine r_getR dX1_part_1 flX1_15 sh_29 (by decide) rfl (pf_29_0 hq.1) ?_
      refine r_getIv dX1_part_4 flX1_68 sh_28 (by decide) rfl (uC_c ht (by decide) _) ?_
      refine r_istore_n1 dX1_part_7 rfl ?_
      refine r_iload_n dX1_part_8 rfl ?_
      refine r_bipush (v := 33) dX1_part_9 (by decide) ?_
      refine r_ic_ne 19 dX1_part_11 (by decide) (fun c11 => ?_) (fun c11 => ?_)
      · refine r_iload_n dX1_part_19 rfl ?_
        refine r_bipush (v := 22) dX1_part_20 (by decide) ?_
        refine r_ic_ne 37 dX1_part_22 (by decide) (fun c22 => ?_) (fun c22 => ?_)
        · exact hk E ex t I J P n hn ht hE hq
        · exact absurd c22 y3
      · exact absurd c11 y1
    apply JG.rb (pc2 := 86)
    · intro r K' hk E ex I J P n hn hP
      refine r_aload_n dX11_leafRead_0 rfl ?_
      refine r_bipush (v := 40) dX11_leafRead_1 (by decide) ?_
      refine r_cV1i dX11_leafRead_3 vlX11_248 sh_347 (Nat.le_of_ble_eq_true rfl) (isSign_r_f y2 E ex I J P n (by omega) hP) ?_
      refine r_if_eq 50 dX11_leafRead_6 (by decide) (fun c6 => ?_) (fun c6 => ?_)
      · refine r_aload_n dX11_leafRead_50 rfl ?_
        refine r_bipush (v := 15) dX11_leafRead_51 (by decide) ?_
        refine r_cV1i dX11_leafRead_53 vlX11_293 sh_347 (Nat.le_of_ble_eq_true rfl) (isKey_r_f y4 E ex I J P n (by omega) hP) ?_
        refine r_if_eq 86 dX11_leafRead_56 (by decide) (fun c56 => ?_) (fun c56 => ?_)
        · exact hk E ex I J P n hn hP
        · exact absurd c56 (by decide)
      · exact absurd c6 (by decide)
    exact leaf_J z gt
  by_cases hm : K 29 5 = 0
  case pos =>
    apply JG.ca (pc2 := 37)
    · intro r K' hk E ex t I J P n hn ht hE hq
      refine r_aload_n dX1_part_0 rfl ?_
      refine r_getR dX1_part_1 flX1_15 sh_29 (by decide) rfl (pf_29_0 hq.1) ?_
      refine r_getIv dX1_part_4 flX1_68 sh_28 (by decide) rfl (uC_c ht (by decide) _) ?_
      refine r_istore_n1 dX1_part_7 rfl ?_
      refine r_iload_n dX1_part_8 rfl ?_
      refine r_bipush (v := 33) dX1_part_9 (by decide) ?_
      refine r_ic_ne 19 dX1_part_11 (by decide) (fun c11 => ?_) (fun c11 => ?_)
      · refine r_iload_n dX1_part_19 rfl ?_
        refine r_bipush (v := 22) dX1_part_20 (by decide) ?_
        refine r_ic_ne 37 dX1_part_22 (by decide) (fun c22 => ?_) (fun c22 => ?_)
        · exact absurd y3 c22
        · refine r_aload_n dX1_part_25 rfl ?_
          refine r_getIv dX1_part_26 flX1_34 sh_29 (by decide) rfl (uC_c ht (by decide) _) ?_
          refine r_if_eq 37 dX1_part_29 (by decide) (fun c29 => ?_) (fun c29 => ?_)
          · exact hk E ex t I J P n hn ht hE hq
          · exact absurd hm c29
      · exact absurd c11 y1
    apply JG.rb (pc2 := 86)
    · intro r K' hk E ex I J P n hn hP
      refine r_aload_n dX11_leafRead_0 rfl ?_
      refine r_bipush (v := 40) dX11_leafRead_1 (by decide) ?_
      refine r_cV1i dX11_leafRead_3 vlX11_248 sh_347 (Nat.le_of_ble_eq_true rfl) (isSign_r_f y2 E ex I J P n (by omega) hP) ?_
      refine r_if_eq 50 dX11_leafRead_6 (by decide) (fun c6 => ?_) (fun c6 => ?_)
      · refine r_aload_n dX11_leafRead_50 rfl ?_
        refine r_bipush (v := 15) dX11_leafRead_51 (by decide) ?_
        refine r_cV1i dX11_leafRead_53 vlX11_293 sh_347 (Nat.le_of_ble_eq_true rfl) (isKey_r_t ⟨y4, y5⟩ E ex I J P n (by omega) hP) ?_
        refine r_if_eq 86 dX11_leafRead_56 (by decide) (fun c56 => ?_) (fun c56 => ?_)
        · exact absurd c56 (by decide)
        · refine r_aload_n dX11_leafRead_59 rfl ?_
          refine r_getIv dX11_leafRead_60 flX11_349 sh_347 (by decide) rfl (uR_r (by decide) _) ?_
          refine r_if_eq 86 dX11_leafRead_63 (by decide) (fun c63 => ?_) (fun c63 => ?_)
          · exact hk E ex I J P n hn hP
          · exact absurd (e7.symm.trans hm) c63
      · exact absurd c6 (by decide)
    exact leaf_J z gt
  by_cases hc : cnt = 64
  · subst hc
    refine JG.fin (r := some (.int 2)) (r' := some (.int 0)) (K' := K) (M' := fR M 2) ?_ ?_ ?_
    · intro E ex t I J P n hn ht hE hq
      refine r_aload_n dX1_part_0 rfl ?_
      refine r_getR dX1_part_1 flX1_15 sh_29 (by decide) rfl (pf_29_0 hq.1) ?_
      refine r_getIv dX1_part_4 flX1_68 sh_28 (by decide) rfl (uC_c ht (by decide) _) ?_
      refine r_istore_n1 dX1_part_7 rfl ?_
      refine r_iload_n dX1_part_8 rfl ?_
      refine r_bipush (v := 33) dX1_part_9 (by decide) ?_
      refine r_ic_ne 19 dX1_part_11 (by decide) (fun c11 => ?_) (fun c11 => ?_)
      · refine r_iload_n dX1_part_19 rfl ?_
        refine r_bipush (v := 22) dX1_part_20 (by decide) ?_
        refine r_ic_ne 37 dX1_part_22 (by decide) (fun c22 => ?_) (fun c22 => ?_)
        · exact absurd y3 c22
        · refine r_aload_n dX1_part_25 rfl ?_
          refine r_getIv dX1_part_26 flX1_34 sh_29 (by decide) rfl (uC_c ht (by decide) _) ?_
          refine r_if_eq 37 dX1_part_29 (by decide) (fun c29 => ?_) (fun c29 => ?_)
          · exact absurd c29 hm
          · refine r_aload_n dX1_part_32 rfl ?_
            refine r_cV0i dX1_part_33 vlX1_74 sh_29 (Nat.le_of_ble_eq_true rfl) (kw_f e10 E ex t I J P n (by omega) ht hE hq) ?_
            exact r_iret dX1_part_36 rfl rfl rfl rfl
      · exact absurd c11 y1
    · intro E ex I J P n hn hP
      refine r_aload_n dX11_leafRead_0 rfl ?_
      refine r_bipush (v := 40) dX11_leafRead_1 (by decide) ?_
      refine r_cV1i dX11_leafRead_3 vlX11_248 sh_347 (Nat.le_of_ble_eq_true rfl) (isSign_r_f y2 E ex I J P n (by omega) hP) ?_
      refine r_if_eq 50 dX11_leafRead_6 (by decide) (fun c6 => ?_) (fun c6 => ?_)
      · refine r_aload_n dX11_leafRead_50 rfl ?_
        refine r_bipush (v := 15) dX11_leafRead_51 (by decide) ?_
        refine r_cV1i dX11_leafRead_53 vlX11_293 sh_347 (Nat.le_of_ble_eq_true rfl) (isKey_r_t ⟨y4, y5⟩ E ex I J P n (by omega) hP) ?_
        refine r_if_eq 86 dX11_leafRead_56 (by decide) (fun c56 => ?_) (fun c56 => ?_)
        · exact absurd c56 (by decide)
        · refine r_aload_n dX11_leafRead_59 rfl ?_
          refine r_getIv dX11_leafRead_60 flX11_349 sh_347 (by decide) rfl (uR_r (by decide) _) ?_
          refine r_if_eq 86 dX11_leafRead_63 (by decide) (fun c63 => ?_) (fun c63 => ?_)
          · exact absurd (e7.trans c63) hm
          · refine r_aload_n dX11_leafRead_66 rfl ?_
            refine r_cV0i dX11_leafRead_67 vlX11_353 sh_347 (Nat.le_of_ble_eq_true rfl) (ic_f e11 E ex I J P n (by omega) hP) ?_
            refine r_if_ne 75 dX11_leafRead_70 (by decide) (fun c70 => ?_) (fun c70 => ?_)
            · exact absurd c70 (by decide)
            · refine r_iconst (v := 0) dX11_leafRead_73 (by decide) ?_
              exact r_iret dX11_leafRead_74 rfl rfl rfl rfl
      · exact absurd c6 (by decide)
    · exact Qq.bad (Or.inr rfl) rfl rfl (agL.rf q K M)
  have hK : ∀ a k, ¬ ((a = 507 ∧ k = 5) ∨ (a = 29 ∧ k = 2) ∨ (a = 30 ∧ k = n)) → (xu (xu (xu K 507 5 (nI (cnt + 1))) 30 n (K 28 4)) 29 2 (nI (n + 1))) a k = K a k := fun a k z => ((xu_ne (by omega)).trans ((xu_ne (by omega)).trans (xu_ne (by omega))))
  have hM : ∀ a k, ¬ ((a = 347 ∧ (k = 47 ∨ k = 44)) ∨ (a = 372 ∧ k = n)) → (xu (xu (xu M 347 47 (nI (cnt + 1))) 372 n 2) 347 44 (nI (n + 1))) a k = M a k := fun a k z => ((xu_ne (by omega)).trans ((xu_ne (by omega)).trans (xu_ne (by omega))))
  have t1 : jT s i p (xu (xu (xu K 507 5 (nI (cnt + 1))) 30 n (K 28 4)) 29 2 (nI (n + 1))) (xu (xu (xu M 347 47 (nI (cnt + 1))) 372 n 2) 347 44 (nI (n + 1))) := gt.c (fun a k z => hK a k (by omega)) (fun a k z => hM a k (by omega))
  obtain ⟨i1, p1, K1, M1, a1, a2, a3, a4, a5⟩ := adv_R t1
  have r1 : jR s0 q (cnt + 1) (n + 1) ba h hs 1 (xu (xu (xu K 507 5 (nI (cnt + 1))) 30 n (K 28 4)) 29 2 (nI (n + 1))) (xu (xu (xu M 347 47 (nI (cnt + 1))) 372 n 2) 347 44 (nI (n + 1))) := z.push (c' := c) (kc := 22) (kr := 2) (Or.inr (Or.inl ⟨rfl, rfl⟩)) (by omega) z3 (by omega) (Or.inr (Or.inl ⟨rfl, z5⟩)) (by simpa using z6) (xu_s _ _ _ _) (xu_s _ _ _ _) ((hK _ _ (by omega)).trans e3) ((hM _ _ (by omega)).trans e4) ((hK _ _ (by omega)).trans e5) ((hM _ _ (by omega)).trans e6) (((hK _ _ (by omega)).trans e7).trans (hM _ _ (by omega)).symm) ((xu_ne (by omega)).trans ((xu_ne (by omega)).trans (xu_s _ _ _ _))) ((xu_ne (by omega)).trans ((xu_ne (by omega)).trans (xu_s _ _ _ _))) (((xu_ne (by omega)).trans (xu_s _ _ _ _)).trans y3) ((xu_ne (by omega)).trans (xu_s _ _ _ _)) (fun a k z => hK a k (by omega)) (fun a k z => hM a k (by omega))
  refine JG.fin (r := some (.int 0)) (r' := some (.int 1)) (K' := xu (xu (xu K 507 5 (nI (cnt + 1))) 30 n (K 28 4)) 29 2 (nI (n + 1))) (M' := M1) ?_ ?_ ?_
  · intro E ex t I J P n hn ht hE hq
    refine r_aload_n dX1_part_0 rfl ?_
    refine r_getR dX1_part_1 flX1_15 sh_29 (by decide) rfl (pf_29_0 hq.1) ?_
    refine r_getIv dX1_part_4 flX1_68 sh_28 (by decide) rfl (uC_c ht (by decide) _) ?_
    refine r_istore_n1 dX1_part_7 rfl ?_
    refine r_iload_n dX1_part_8 rfl ?_
    refine r_bipush (v := 33) dX1_part_9 (by decide) ?_
    refine r_ic_ne 19 dX1_part_11 (by decide) (fun c11 => ?_) (fun c11 => ?_)
    · refine r_iload_n dX1_part_19 rfl ?_
      refine r_bipush (v := 22) dX1_part_20 (by decide) ?_
      refine r_ic_ne 37 dX1_part_22 (by decide) (fun c22 => ?_) (fun c22 => ?_)
      · exact absurd y3 c22
      · refine r_aload_n dX1_part_25 rfl ?_
        refine r_getIv dX1_part_26 flX1_34 sh_29 (by decide) rfl (uC_c ht (by decide) _) ?_
        refine r_if_eq 37 dX1_part_29 (by decide) (fun c29 => ?_) (fun c29 => ?_)
        · exact absurd c29 hm
        · refine r_aload_n dX1_part_32 rfl ?_
          refine r_cV0i dX1_part_33 vlX1_74 sh_29 (Nat.le_of_ble_eq_true rfl) (kw_t e10 (by omega) e1 (by omega) E ex t I J P n (by omega) ht hE hq) ?_
          exact r_iret dX1_part_36 rfl rfl rfl rfl
    · exact absurd c11 y1
  · intro E ex I J P n hn hP
    refine r_aload_n dX11_leafRead_0 rfl ?_
    refine r_bipush (v := 40) dX11_leafRead_1 (by decide) ?_
    refine r_cV1i dX11_leafRead_3 vlX11_248 sh_347 (Nat.le_of_ble_eq_true rfl) (isSign_r_f y2 E ex I J P n (by omega) hP) ?_
    refine r_if_eq 50 dX11_leafRead_6 (by decide) (fun c6 => ?_) (fun c6 => ?_)
    · refine r_aload_n dX11_leafRead_50 rfl ?_
      refine r_bipush (v := 15) dX11_leafRead_51 (by decide) ?_
      refine r_cV1i dX11_leafRead_53 vlX11_293 sh_347 (Nat.le_of_ble_eq_true rfl) (isKey_r_t ⟨y4, y5⟩ E ex I J P n (by omega) hP) ?_
      refine r_if_eq 86 dX11_leafRead_56 (by decide) (fun c56 => ?_) (fun c56 => ?_)
      · exact absurd c56 (by decide)
      · refine r_aload_n dX11_leafRead_59 rfl ?_
        refine r_getIv dX11_leafRead_60 flX11_349 sh_347 (by decide) rfl (uR_r (by decide) _) ?_
        refine r_if_eq 86 dX11_leafRead_63 (by decide) (fun c63 => ?_) (fun c63 => ?_)
        · exact absurd (e7.trans c63) hm
        · refine r_aload_n dX11_leafRead_66 rfl ?_
          refine r_cV0i dX11_leafRead_67 vlX11_353 sh_347 (Nat.le_of_ble_eq_true rfl) (ic_t e11 (by omega) E ex I J P n (by omega) hP) ?_
          refine r_if_ne 75 dX11_leafRead_70 (by decide) (fun c70 => ?_) (fun c70 => ?_)
          · refine r_aload_n dX11_leafRead_75 rfl ?_
            refine r_iconst (v := 2) dX11_leafRead_76 (by decide) ?_
            refine r_cV1v dX11_leafRead_77 vlX11_345 sh_347 (Nat.le_of_ble_eq_true rfl) (wf_r ((xu_ne (by omega)).trans e2) (by omega) 2 E ex I J P n (by omega) hP) ?_
            refine r_aload_n dX11_leafRead_80 rfl ?_
            refine r_cV0v dX11_leafRead_81 vlX11_245 sh_347 (Nat.le_of_ble_eq_true rfl) (a5 E ex I J P n (by omega) hP) ?_
            refine r_iconst (v := 1) dX11_leafRead_84 (by decide) ?_
            exact r_iret dX11_leafRead_85 rfl rfl rfl rfl
          · exact absurd c70 (by decide)
    · exact absurd c6 (by decide)
  · exact Qq.good a4 (gt.2.2.2.1 (by rw [y3]; decide)) a1 a2 a3 (Nat.le_refl _) r1 (Or.inr rfl) ⟨fun a k z => hK a k (by omega), fun a k z => hM a k (by omega)⟩ (hM _ _ (by omega)) (hM _ _ (by omega))
/-! laws on both sides: a sign behind a part -/
def opk (kr w : Int32) : Int32 := if kr = 1 ∧ w = 13 then 3 else if kr = 1 ∧ w = 14 then 4 else if kr = 5 then 5 + w else if kr = 4 ∧ w = 43 then 11 else if kr = 4 ∧ w = 45 then 12 else if kr = 4 ∧ w = 42 then 13 else if kr = 4 ∧ w = 47 then 14 else 0
theorem TkR.op {kc v kr w : Int32} (h : TkR kc v kr w) : (wtB kc (opk kr w) ∧ ¬ opk kr w = 0 ∧ 0 < cRk kc ∧ ¬ cRk kc = 3) ∨ ((cRk kc = 0 ∨ cRk kc = 3) ∧ opk kr w = 0) := by
  rcases h with ⟨h1, h2⟩ | ⟨m, hm, h1, h2, h3⟩ | ⟨h1, h2, h3⟩ | ⟨h1, h2, h3⟩ | ⟨h1, h2⟩ | ⟨q, hq, h1, h2, h3⟩ | ⟨h1, h2⟩
  · rw [h1, h2]; exact Or.inr ⟨Or.inl (by decide), by simp [opk]⟩
  · by_cases e : m = 20
    · subst e
      rw [h1, h2, h3, show opk 1 (nI (kMap 20)) = 3 by decide]
      exact Or.inl ⟨⟨Or.inr (Or.inr (Or.inl ⟨rfl, rfl⟩)), by decide, by decide⟩, by decide, by decide, by decide⟩
    · by_cases e2 : m = 21
      · subst e2
        rw [h1, h2, h3, show opk 1 (nI (kMap 21)) = 4 by decide]
        exact Or.inl ⟨⟨Or.inr (Or.inr (Or.inr (Or.inl ⟨rfl, rfl⟩))), by decide, by decide⟩, by decide, by decide, by decide⟩
      · have y : ∀ m, m < 23 → ¬ m = 20 → ¬ m = 21 → (cRk (nI m) = 0 ∨ cRk (nI m) = 3) ∧ opk 1 (nI (kMap m)) = 0 := by decide +kernel
        rw [h1, h2, h3]
        exact Or.inr (y m hm e e2)
  · rw [h1, h2]; exact Or.inr ⟨Or.inl (by decide), by simp [opk]⟩
  · rw [h1, h2]; exact Or.inr ⟨Or.inl (by decide), by simp [opk]⟩
  · rcases h2 with h2 | h2 | h2 | h2 | h2 | h2 | h2
    · rw [h1, h2.1, h2.2]; exact Or.inr (by decide)
    · rw [h1, h2.1, h2.2]; exact Or.inr (by decide)
    · rw [h1, h2.1, h2.2]; exact Or.inr (by decide)
    · rw [h1, h2.1, h2.2, show opk 4 43 = 11 by decide]
      exact Or.inl ⟨⟨Or.inr (Or.inr (Or.inr (Or.inr (Or.inr (Or.inl ⟨rfl, rfl⟩))))), by decide, by decide⟩, by decide, by decide, by decide⟩
    · rw [h1, h2.1, h2.2, show opk 4 45 = 12 by decide]
      exact Or.inl ⟨⟨Or.inr (Or.inr (Or.inr (Or.inr (Or.inr (Or.inr (Or.inl ⟨rfl, rfl⟩)))))), by decide, by decide⟩, by decide, by decide, by decide⟩
    · rw [h1, h2.1, h2.2, show opk 4 42 = 13 by decide]
      exact Or.inl ⟨⟨Or.inr (Or.inr (Or.inr (Or.inr (Or.inr (Or.inr (Or.inr (Or.inl ⟨rfl, rfl⟩))))))), by decide, by decide⟩, by decide, by decide, by decide⟩
    · rw [h1, h2.1, h2.2, show opk 4 47 = 14 by decide]
      exact Or.inl ⟨⟨Or.inr (Or.inr (Or.inr (Or.inr (Or.inr (Or.inr (Or.inr (Or.inr ⟨rfl, rfl⟩))))))), by decide, by decide⟩, by decide, by decide, by decide⟩
  · have y : ∀ m, m < 6 → opk 5 (nI m) = nI (5 + m) ∧ ¬ nI (23 + m) = 33 ∧ ¬ nI (23 + m) = 22 ∧ ¬ nI (5 + m) = 0 ∧ 0 < cRk (nI (23 + m)) ∧ ¬ cRk (nI (23 + m)) = 3 := by decide +kernel
    have y := y q hq
    rw [h1, h2, h3, y.1]
    exact Or.inl ⟨⟨Or.inr (Or.inr (Or.inr (Or.inr (Or.inl ⟨q, hq, rfl, rfl⟩)))), y.2.1, y.2.2.1⟩, y.2.2.2⟩
  · rcases h2 with h2 | ⟨h2, h3⟩
    · rw [h1, h2]; exact Or.inr ⟨Or.inl (by decide), by simp [opk]⟩
    · rw [h1, h2, h3]; exact Or.inr (by decide)
theorem mx0 (m : Nat) (hm : m < 2 ^ 31) : (if (0 : Int32) < nI m then nI m else 0) = nI m := by
  by_cases e : m = 0
  · subst e; decide
  · exact if_pos (nI_lt (a := 0) (b := m) (by omega) hm)
theorem jR.pop {s0 q cnt m a h : Nat} {hs : List Nat} {K K' M M' : Nat → Nat → Int32} (z : jR s0 q cnt (m + 1) (a + 1) h hs 0 K M) (h33 : K 30 m = 33) (k1 : K' 29 2 = nI m) (m1 : M' 347 44 = nI m) (k2 : K' 29 3 = nI a) (m2 : M' 347 46 = nI a) (hK : ∀ a k, (a = 30 ∨ (a = 29 ∧ 4 ≤ k) ∨ a = 507 ∨ a = 508) → K' a k = K a k) (hM : ∀ a k, ((a = 347 ∧ (k = 19 ∨ k = 45 ∨ k = 47 ∨ k = 48 ∨ k = 49)) ∨ (369 ≤ a ∧ a ≤ 373)) → M' a k = M a k) : jR s0 q cnt m a h hs 0 K' M' := by
  obtain ⟨z1, z2, z3, z4, ⟨c, ⟨-, z5⟩, z6⟩, e1, e2, e3, e4, e5, e6, e7, e8, e9, e10, e11, e12, e13, e14, e15, e16⟩ := z
  have w : Wt K M m a c := by
    rcases z5 with ⟨-, a', h1, h2⟩ | ⟨h1, -⟩ | ⟨h1, -⟩
    · rw [show a = a' by omega]; exact h2
    · rw [h33] at h1; exact absurd h1 (by decide)
    · exact absurd h33 h1
  exact ⟨z1, z2, by omega, by omega, ⟨c, w.c (fun k _ => hK _ _ (by omega)) (fun k _ => hM _ _ (by omega)), z6⟩, k1, m1, k2, m2, (hK _ _ (by omega)).trans e5, (hM _ _ (by omega)).trans e6, (hK _ _ (by omega)).trans (e7.trans (hM _ _ (by omega)).symm), (hK _ _ (by omega)).trans e8, (hM _ _ (by omega)).trans e9, (hK _ _ (by omega)).trans e10, (hM _ _ (by omega)).trans e11, (hM _ _ (by omega)).trans e12, e13, e14, e15.c (fun k _ _ => hK _ _ (by omega)) (fun a k _ _ _ => hM _ _ (by omega)), fun j hj => (hM _ _ (by omega)).trans (e16 j hj)⟩
theorem wtR.r0 {kc kr : Int32} (h : wtR kc kr) (h0 : cRk kc < 1) : kc = 33 := by
  rcases h with ⟨h1, -⟩ | ⟨h1, -⟩ | ⟨h1, -⟩ | ⟨h1, -⟩ | ⟨q, hq, h1, -⟩ | ⟨h1, -⟩ | ⟨h1, -⟩ | ⟨h1, -⟩ | ⟨h1, -⟩
  · exact h1
  · rw [h1] at h0; exact absurd h0 (by decide)
  · rw [h1] at h0; exact absurd h0 (by decide)
  · rw [h1] at h0; exact absurd h0 (by decide)
  · rw [h1] at h0
    have y : ∀ q, q < 6 → ¬ cRk (nI (23 + q)) < 1 := by decide +kernel
    exact absurd h0 (y q hq)
  · rw [h1] at h0; exact absurd h0 (by decide)
  · rw [h1] at h0; exact absurd h0 (by decide)
  · rw [h1] at h0; exact absurd h0 (by decide)
  · rw [h1] at h0; exact absurd h0 (by decide)
set_option maxHeartbeats 4000000 in
theorem sg_r {M M' : Nat → Nat → Int32} {r : Option Value} (hk : rAt 3 yX11_signs cX11_signs (some .boolean) 148 [some (.ref 347), some (.int (opk (M 347 8) (M 347 9)))] [] M r M') : rAt 3 yX11_signs cX11_signs (some .boolean) 47 [some (.ref 347), none] [] M r M' := by
  intro E ex I J P n hn hP
  by_cases y0 : M 347 8 = 1 ∧ M 347 9 = 13
  · rw [opk, if_pos y0] at hk
    refine r_aload_n dX11_signs_47 rfl ?_
    refine r_bipush (v := 13) dX11_signs_48 (by decide) ?_
    refine r_cV1i dX11_signs_50 vlX11_293 sh_347 (Nat.le_of_ble_eq_true rfl) (isKey_r_t y0 E ex I J P n (by omega) hP) ?_
    refine r_if_eq 60 dX11_signs_53 (by decide) (fun c53 => ?_) (fun c53 => ?_)
    · exact absurd c53 (by decide)
    · refine r_iconst (v := 3) dX11_signs_56 (by decide) ?_
      refine r_goto 147 dX11_signs_57 (by decide) ?_
      refine r_istore_n1 dX11_signs_147 rfl ?_
      exact hk E ex I J P n hn hP
  by_cases y1 : M 347 8 = 1 ∧ M 347 9 = 14
  · rw [opk, if_neg y0, if_pos y1] at hk
    refine r_aload_n dX11_signs_47 rfl ?_
    refine r_bipush (v := 13) dX11_signs_48 (by decide) ?_
    refine r_cV1i dX11_signs_50 vlX11_293 sh_347 (Nat.le_of_ble_eq_true rfl) (isKey_r_f y0 E ex I J P n (by omega) hP) ?_
    refine r_if_eq 60 dX11_signs_53 (by decide) (fun c53 => ?_) (fun c53 => ?_)
    · refine r_aload_n dX11_signs_60 rfl ?_
      refine r_bipush (v := 14) dX11_signs_61 (by decide) ?_
      refine r_cV1i dX11_signs_63 vlX11_293 sh_347 (Nat.le_of_ble_eq_true rfl) (isKey_r_t y1 E ex I J P n (by omega) hP) ?_
      refine r_if_eq 73 dX11_signs_66 (by decide) (fun c66 => ?_) (fun c66 => ?_)
      · exact absurd c66 (by decide)
      · refine r_iconst (v := 4) dX11_signs_69 (by decide) ?_
        refine r_goto 147 dX11_signs_70 (by decide) ?_
        refine r_istore_n1 dX11_signs_147 rfl ?_
        exact hk E ex I J P n hn hP
    · exact absurd c53 (by decide)
  by_cases y2 : M 347 8 = 5
  · rw [opk, if_neg y0, if_neg y1, if_pos y2] at hk
    refine r_aload_n dX11_signs_47 rfl ?_
    refine r_bipush (v := 13) dX11_signs_48 (by decide) ?_
    refine r_cV1i dX11_signs_50 vlX11_293 sh_347 (Nat.le_of_ble_eq_true rfl) (isKey_r_f y0 E ex I J P n (by omega) hP) ?_
    refine r_if_eq 60 dX11_signs_53 (by decide) (fun c53 => ?_) (fun c53 => ?_)
    · refine r_aload_n dX11_signs_60 rfl ?_
      refine r_bipush (v := 14) dX11_signs_61 (by decide) ?_
      refine r_cV1i dX11_signs_63 vlX11_293 sh_347 (Nat.le_of_ble_eq_true rfl) (isKey_r_f y1 E ex I J P n (by omega) hP) ?_
      refine r_if_eq 73 dX11_signs_66 (by decide) (fun c66 => ?_) (fun c66 => ?_)
      · refine r_aload_n dX11_signs_73 rfl ?_
        refine r_getIv dX11_signs_74 flX11_211 sh_347 (by decide) rfl (uR_r (by decide) _) ?_
        refine r_iconst (v := 5) dX11_signs_77 (by decide) ?_
        refine r_ic_ne 90 dX11_signs_78 (by decide) (fun c78 => ?_) (fun c78 => ?_)
        · exact absurd y2 c78
        · refine r_iconst (v := 5) dX11_signs_81 (by decide) ?_
          refine r_aload_n dX11_signs_82 rfl ?_
          refine r_getIv dX11_signs_83 flX11_222 sh_347 (by decide) rfl (uR_r (by decide) _) ?_
          refine r_iadd dX11_signs_86 ?_
          refine r_goto 147 dX11_signs_87 (by decide) ?_
          refine r_istore_n1 dX11_signs_147 rfl ?_
          exact hk E ex I J P n hn hP
      · exact absurd c66 (by decide)
    · exact absurd c53 (by decide)
  by_cases y3 : M 347 8 = 4 ∧ M 347 9 = 43
  · rw [opk, if_neg y0, if_neg y1, if_neg y2, if_pos y3] at hk
    refine r_aload_n dX11_signs_47 rfl ?_
    refine r_bipush (v := 13) dX11_signs_48 (by decide) ?_
    refine r_cV1i dX11_signs_50 vlX11_293 sh_347 (Nat.le_of_ble_eq_true rfl) (isKey_r_f y0 E ex I J P n (by omega) hP) ?_
    refine r_if_eq 60 dX11_signs_53 (by decide) (fun c53 => ?_) (fun c53 => ?_)
    · refine r_aload_n dX11_signs_60 rfl ?_
      refine r_bipush (v := 14) dX11_signs_61 (by decide) ?_
      refine r_cV1i dX11_signs_63 vlX11_293 sh_347 (Nat.le_of_ble_eq_true rfl) (isKey_r_f y1 E ex I J P n (by omega) hP) ?_
      refine r_if_eq 73 dX11_signs_66 (by decide) (fun c66 => ?_) (fun c66 => ?_)
      · refine r_aload_n dX11_signs_73 rfl ?_
        refine r_getIv dX11_signs_74 flX11_211 sh_347 (by decide) rfl (uR_r (by decide) _) ?_
        refine r_iconst (v := 5) dX11_signs_77 (by decide) ?_
        refine r_ic_ne 90 dX11_signs_78 (by decide) (fun c78 => ?_) (fun c78 => ?_)
        · refine r_aload_n dX11_signs_90 rfl ?_
          refine r_bipush (v := 43) dX11_signs_91 (by decide) ?_
          refine r_cV1i dX11_signs_93 vlX11_248 sh_347 (Nat.le_of_ble_eq_true rfl) (isSign_r_t y3 E ex I J P n (by omega) hP) ?_
          refine r_if_eq 104 dX11_signs_96 (by decide) (fun c96 => ?_) (fun c96 => ?_)
          · exact absurd c96 (by decide)
          · refine r_bipush (v := 11) dX11_signs_99 (by decide) ?_
            refine r_goto 147 dX11_signs_101 (by decide) ?_
            refine r_istore_n1 dX11_signs_147 rfl ?_
            exact hk E ex I J P n hn hP
        · exact absurd c78 y2
      · exact absurd c66 (by decide)
    · exact absurd c53 (by decide)
  by_cases y4 : M 347 8 = 4 ∧ M 347 9 = 45
  · rw [opk, if_neg y0, if_neg y1, if_neg y2, if_neg y3, if_pos y4] at hk
    refine r_aload_n dX11_signs_47 rfl ?_
    refine r_bipush (v := 13) dX11_signs_48 (by decide) ?_
    refine r_cV1i dX11_signs_50 vlX11_293 sh_347 (Nat.le_of_ble_eq_true rfl) (isKey_r_f y0 E ex I J P n (by omega) hP) ?_
    refine r_if_eq 60 dX11_signs_53 (by decide) (fun c53 => ?_) (fun c53 => ?_)
    · refine r_aload_n dX11_signs_60 rfl ?_
      refine r_bipush (v := 14) dX11_signs_61 (by decide) ?_
      refine r_cV1i dX11_signs_63 vlX11_293 sh_347 (Nat.le_of_ble_eq_true rfl) (isKey_r_f y1 E ex I J P n (by omega) hP) ?_
      refine r_if_eq 73 dX11_signs_66 (by decide) (fun c66 => ?_) (fun c66 => ?_)
      · refine r_aload_n dX11_signs_73 rfl ?_
        refine r_getIv dX11_signs_74 flX11_211 sh_347 (by decide) rfl (uR_r (by decide) _) ?_
        refine r_iconst (v := 5) dX11_signs_77 (by decide) ?_
        refine r_ic_ne 90 dX11_signs_78 (by decide) (fun c78 => ?_) (fun c78 => ?_)
        · refine r_aload_n dX11_signs_90 rfl ?_
          refine r_bipush (v := 43) dX11_signs_91 (by decide) ?_
          refine r_cV1i dX11_signs_93 vlX11_248 sh_347 (Nat.le_of_ble_eq_true rfl) (isSign_r_f y3 E ex I J P n (by omega) hP) ?_
          refine r_if_eq 104 dX11_signs_96 (by decide) (fun c96 => ?_) (fun c96 => ?_)
          · refine r_aload_n dX11_signs_104 rfl ?_
            refine r_bipush (v := 45) dX11_signs_105 (by decide) ?_
            refine r_cV1i dX11_signs_107 vlX11_248 sh_347 (Nat.le_of_ble_eq_true rfl) (isSign_r_t y4 E ex I J P n (by omega) hP) ?_
            refine r_if_eq 118 dX11_signs_110 (by decide) (fun c110 => ?_) (fun c110 => ?_)
            · exact absurd c110 (by decide)
            · refine r_bipush (v := 12) dX11_signs_113 (by decide) ?_
              refine r_goto 147 dX11_signs_115 (by decide) ?_
              refine r_istore_n1 dX11_signs_147 rfl ?_
              exact hk E ex I J P n hn hP
          · exact absurd c96 (by decide)
        · exact absurd c78 y2
      · exact absurd c66 (by decide)
    · exact absurd c53 (by decide)
  by_cases y5 : M 347 8 = 4 ∧ M 347 9 = 42
  · rw [opk, if_neg y0, if_neg y1, if_neg y2, if_neg y3, if_neg y4, if_pos y5] at hk
    refine r_aload_n dX11_signs_47 rfl ?_
    refine r_bipush (v := 13) dX11_signs_48 (by decide) ?_
    refine r_cV1i dX11_signs_50 vlX11_293 sh_347 (Nat.le_of_ble_eq_true rfl) (isKey_r_f y0 E ex I J P n (by omega) hP) ?_
    refine r_if_eq 60 dX11_signs_53 (by decide) (fun c53 => ?_) (fun c53 => ?_)
    · refine r_aload_n dX11_signs_60 rfl ?_
      refine r_bipush (v := 14) dX11_signs_61 (by decide) ?_
      refine r_cV1i dX11_signs_63 vlX11_293 sh_347 (Nat.le_of_ble_eq_true rfl) (isKey_r_f y1 E ex I J P n (by omega) hP) ?_
      refine r_if_eq 73 dX11_signs_66 (by decide) (fun c66 => ?_) (fun c66 => ?_)
      · refine r_aload_n dX11_signs_73 rfl ?_
        refine r_getIv dX11_signs_74 flX11_211 sh_347 (by decide) rfl (uR_r (by decide) _) ?_
        refine r_iconst (v := 5) dX11_signs_77 (by decide) ?_
        refine r_ic_ne 90 dX11_signs_78 (by decide) (fun c78 => ?_) (fun c78 => ?_)
        · refine r_aload_n dX11_signs_90 rfl ?_
          refine r_bipush (v := 43) dX11_signs_91 (by decide) ?_
          refine r_cV1i dX11_signs_93 vlX11_248 sh_347 (Nat.le_of_ble_eq_true rfl) (isSign_r_f y3 E ex I J P n (by omega) hP) ?_
          refine r_if_eq 104 dX11_signs_96 (by decide) (fun c96 => ?_) (fun c96 => ?_)
          · refine r_aload_n dX11_signs_104 rfl ?_
            refine r_bipush (v := 45) dX11_signs_105 (by decide) ?_
            refine r_cV1i dX11_signs_107 vlX11_248 sh_347 (Nat.le_of_ble_eq_true rfl) (isSign_r_f y4 E ex I J P n (by omega) hP) ?_
            refine r_if_eq 118 dX11_signs_110 (by decide) (fun c110 => ?_) (fun c110 => ?_)
            · refine r_aload_n dX11_signs_118 rfl ?_
              refine r_bipush (v := 42) dX11_signs_119 (by decide) ?_
              refine r_cV1i dX11_signs_121 vlX11_248 sh_347 (Nat.le_of_ble_eq_true rfl) (isSign_r_t y5 E ex I J P n (by omega) hP) ?_
              refine r_if_eq 132 dX11_signs_124 (by decide) (fun c124 => ?_) (fun c124 => ?_)
              · exact absurd c124 (by decide)
              · refine r_bipush (v := 13) dX11_signs_127 (by decide) ?_
                refine r_goto 147 dX11_signs_129 (by decide) ?_
                refine r_istore_n1 dX11_signs_147 rfl ?_
                exact hk E ex I J P n hn hP
            · exact absurd c110 (by decide)
          · exact absurd c96 (by decide)
        · exact absurd c78 y2
      · exact absurd c66 (by decide)
    · exact absurd c53 (by decide)
  by_cases y6 : M 347 8 = 4 ∧ M 347 9 = 47
  · rw [opk, if_neg y0, if_neg y1, if_neg y2, if_neg y3, if_neg y4, if_neg y5, if_pos y6] at hk
    refine r_aload_n dX11_signs_47 rfl ?_
    refine r_bipush (v := 13) dX11_signs_48 (by decide) ?_
    refine r_cV1i dX11_signs_50 vlX11_293 sh_347 (Nat.le_of_ble_eq_true rfl) (isKey_r_f y0 E ex I J P n (by omega) hP) ?_
    refine r_if_eq 60 dX11_signs_53 (by decide) (fun c53 => ?_) (fun c53 => ?_)
    · refine r_aload_n dX11_signs_60 rfl ?_
      refine r_bipush (v := 14) dX11_signs_61 (by decide) ?_
      refine r_cV1i dX11_signs_63 vlX11_293 sh_347 (Nat.le_of_ble_eq_true rfl) (isKey_r_f y1 E ex I J P n (by omega) hP) ?_
      refine r_if_eq 73 dX11_signs_66 (by decide) (fun c66 => ?_) (fun c66 => ?_)
      · refine r_aload_n dX11_signs_73 rfl ?_
        refine r_getIv dX11_signs_74 flX11_211 sh_347 (by decide) rfl (uR_r (by decide) _) ?_
        refine r_iconst (v := 5) dX11_signs_77 (by decide) ?_
        refine r_ic_ne 90 dX11_signs_78 (by decide) (fun c78 => ?_) (fun c78 => ?_)
        · refine r_aload_n dX11_signs_90 rfl ?_
          refine r_bipush (v := 43) dX11_signs_91 (by decide) ?_
          refine r_cV1i dX11_signs_93 vlX11_248 sh_347 (Nat.le_of_ble_eq_true rfl) (isSign_r_f y3 E ex I J P n (by omega) hP) ?_
          refine r_if_eq 104 dX11_signs_96 (by decide) (fun c96 => ?_) (fun c96 => ?_)
          · refine r_aload_n dX11_signs_104 rfl ?_
            refine r_bipush (v := 45) dX11_signs_105 (by decide) ?_
            refine r_cV1i dX11_signs_107 vlX11_248 sh_347 (Nat.le_of_ble_eq_true rfl) (isSign_r_f y4 E ex I J P n (by omega) hP) ?_
            refine r_if_eq 118 dX11_signs_110 (by decide) (fun c110 => ?_) (fun c110 => ?_)
            · refine r_aload_n dX11_signs_118 rfl ?_
              refine r_bipush (v := 42) dX11_signs_119 (by decide) ?_
              refine r_cV1i dX11_signs_121 vlX11_248 sh_347 (Nat.le_of_ble_eq_true rfl) (isSign_r_f y5 E ex I J P n (by omega) hP) ?_
              refine r_if_eq 132 dX11_signs_124 (by decide) (fun c124 => ?_) (fun c124 => ?_)
              · refine r_aload_n dX11_signs_132 rfl ?_
                refine r_bipush (v := 47) dX11_signs_133 (by decide) ?_
                refine r_cV1i dX11_signs_135 vlX11_248 sh_347 (Nat.le_of_ble_eq_true rfl) (isSign_r_t y6 E ex I J P n (by omega) hP) ?_
                refine r_if_eq 146 dX11_signs_138 (by decide) (fun c138 => ?_) (fun c138 => ?_)
                · exact absurd c138 (by decide)
                · refine r_bipush (v := 14) dX11_signs_141 (by decide) ?_
                  refine r_goto 147 dX11_signs_143 (by decide) ?_
                  refine r_istore_n1 dX11_signs_147 rfl ?_
                  exact hk E ex I J P n hn hP
              · exact absurd c124 (by decide)
            · exact absurd c110 (by decide)
          · exact absurd c96 (by decide)
        · exact absurd c78 y2
      · exact absurd c66 (by decide)
    · exact absurd c53 (by decide)
  rw [opk, if_neg y0, if_neg y1, if_neg y2, if_neg y3, if_neg y4, if_neg y5, if_neg y6] at hk
  refine r_aload_n dX11_signs_47 rfl ?_
  refine r_bipush (v := 13) dX11_signs_48 (by decide) ?_
  refine r_cV1i dX11_signs_50 vlX11_293 sh_347 (Nat.le_of_ble_eq_true rfl) (isKey_r_f y0 E ex I J P n (by omega) hP) ?_
  refine r_if_eq 60 dX11_signs_53 (by decide) (fun c53 => ?_) (fun c53 => ?_)
  · refine r_aload_n dX11_signs_60 rfl ?_
    refine r_bipush (v := 14) dX11_signs_61 (by decide) ?_
    refine r_cV1i dX11_signs_63 vlX11_293 sh_347 (Nat.le_of_ble_eq_true rfl) (isKey_r_f y1 E ex I J P n (by omega) hP) ?_
    refine r_if_eq 73 dX11_signs_66 (by decide) (fun c66 => ?_) (fun c66 => ?_)
    · refine r_aload_n dX11_signs_73 rfl ?_
      refine r_getIv dX11_signs_74 flX11_211 sh_347 (by decide) rfl (uR_r (by decide) _) ?_
      refine r_iconst (v := 5) dX11_signs_77 (by decide) ?_
      refine r_ic_ne 90 dX11_signs_78 (by decide) (fun c78 => ?_) (fun c78 => ?_)
      · refine r_aload_n dX11_signs_90 rfl ?_
        refine r_bipush (v := 43) dX11_signs_91 (by decide) ?_
        refine r_cV1i dX11_signs_93 vlX11_248 sh_347 (Nat.le_of_ble_eq_true rfl) (isSign_r_f y3 E ex I J P n (by omega) hP) ?_
        refine r_if_eq 104 dX11_signs_96 (by decide) (fun c96 => ?_) (fun c96 => ?_)
        · refine r_aload_n dX11_signs_104 rfl ?_
          refine r_bipush (v := 45) dX11_signs_105 (by decide) ?_
          refine r_cV1i dX11_signs_107 vlX11_248 sh_347 (Nat.le_of_ble_eq_true rfl) (isSign_r_f y4 E ex I J P n (by omega) hP) ?_
          refine r_if_eq 118 dX11_signs_110 (by decide) (fun c110 => ?_) (fun c110 => ?_)
          · refine r_aload_n dX11_signs_118 rfl ?_
            refine r_bipush (v := 42) dX11_signs_119 (by decide) ?_
            refine r_cV1i dX11_signs_121 vlX11_248 sh_347 (Nat.le_of_ble_eq_true rfl) (isSign_r_f y5 E ex I J P n (by omega) hP) ?_
            refine r_if_eq 132 dX11_signs_124 (by decide) (fun c124 => ?_) (fun c124 => ?_)
            · refine r_aload_n dX11_signs_132 rfl ?_
              refine r_bipush (v := 47) dX11_signs_133 (by decide) ?_
              refine r_cV1i dX11_signs_135 vlX11_248 sh_347 (Nat.le_of_ble_eq_true rfl) (isSign_r_f y6 E ex I J P n (by omega) hP) ?_
              refine r_if_eq 146 dX11_signs_138 (by decide) (fun c138 => ?_) (fun c138 => ?_)
              · refine r_iconst (v := 0) dX11_signs_146 (by decide) ?_
                refine r_istore_n1 dX11_signs_147 rfl ?_
                exact hk E ex I J P n hn hP
              · exact absurd c138 (by decide)
            · exact absurd c124 (by decide)
          · exact absurd c110 (by decide)
        · exact absurd c96 (by decide)
      · exact absurd c78 y2
    · exact absurd c66 (by decide)
  · exact absurd c53 (by decide)
