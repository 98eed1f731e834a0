/-! laws on both sides: a sign behind a part, whole -/
set_option maxHeartbeats 8000000 in
theorem bh_J {s0 q cnt nw ba h : Nat} {hs : List Nat} {s i p q0 : Nat} {K M K0 M0 : Nat → Nat → Int32} {k0 mn : Int32} (hq0 : q0 ≤ q) (hg : agW q0 K0 K M0 M) (z : jR s0 q cnt nw ba h hs 0 K M) (gt : jT s i p K M) (hpi : p < i) (hw : wtB (K 28 4) k0) (hmn : (cRk (K 28 4) < 3 ∧ mn = 1) ∨ (¬ cRk (K 28 4) < 3 ∧ mn = 0)) : JG (cAt true 3 yX1_behindPart cX1_behindPart (some .int) 103 [some (.ref 29), some (.int (cRk (K 28 4)))] [] K) (rAt 3 yX11_signs cX11_signs (some .boolean) 217 [some (.ref 347), some (.int k0)] [] M) (Qq s0 q0 s i p K0 M0) := by
  have z' := z
  obtain ⟨z1, z2, z3, z4, ⟨c, z5, z6⟩, e1, e2, e3, e4, e5, e6, e7, e8, e9, e10, e11, e12, e13, e14, e15, e16⟩ := z'
  have hle := z5.le
  have h72 := z.n72
  have g10 : M 347 10 = M0 347 10 := hg.2 _ _ (by omega)
  have g28 : K 28 3 = K0 28 3 := hg.1 _ _ (by omega)
  by_cases hc : cnt = 64
  · subst hc
    refine JG.fin (r := some (.int 2)) (r' := some (.int 0)) (K' := (xu (xu K 29 4 1) 29 5 mn)) (M' := fR M 2) ?_ ?_ ?_
    · intro E ex t I J P n hn ht hE hq
      refine r_aload_n dX1_behindPart_103 rfl ?_
      refine r_iconst (v := 1) dX1_behindPart_104 (by decide) ?_
      refine r_putIv dX1_behindPart_105 flX1_30 ⟨_, _, _, rfl, Or.inl rfl⟩ sh_29 (by decide) rfl rfl rfl (uC_xc ht (by decide) _ _) ?_
      rcases hmn with ⟨h1, rfl⟩ | ⟨h1, rfl⟩
      · refine r_aload_n dX1_behindPart_108 rfl ?_
        refine r_iload_n dX1_behindPart_109 rfl ?_
        refine r_iconst (v := 3) dX1_behindPart_110 (by decide) ?_
        refine r_ic_ge 118 dX1_behindPart_111 (by decide) (fun c111 => ?_) (fun c111 => ?_)
        · exact absurd h1 (Int32.not_lt.mpr c111)
        · refine r_iconst (v := 1) dX1_behindPart_114 (by decide) ?_
          refine r_goto 119 dX1_behindPart_115 (by decide) ?_
          refine r_putIv dX1_behindPart_119 flX1_34 ⟨_, _, _, rfl, Or.inl rfl⟩ sh_29 (by decide) rfl rfl rfl (uC_xc ht (by decide) _ _) ?_
          refine r_aload_n dX1_behindPart_122 rfl ?_
          refine r_cV0i dX1_behindPart_123 vlX1_74 sh_29 (Nat.le_of_ble_eq_true rfl) (kw_f ((xu_ne (by omega)).trans ((xu_ne (by omega)).trans e10)) E ex t I J P n (by omega) ht hE hq) ?_
          exact r_iret dX1_behindPart_126 rfl rfl rfl rfl
      · refine r_aload_n dX1_behindPart_108 rfl ?_
        refine r_iload_n dX1_behindPart_109 rfl ?_
        refine r_iconst (v := 3) dX1_behindPart_110 (by decide) ?_
        refine r_ic_ge 118 dX1_behindPart_111 (by decide) (fun c111 => ?_) (fun c111 => ?_)
        · refine r_iconst (v := 0) dX1_behindPart_118 (by decide) ?_
          refine r_putIv dX1_behindPart_119 flX1_34 ⟨_, _, _, rfl, Or.inl rfl⟩ sh_29 (by decide) rfl rfl rfl (uC_xc ht (by decide) _ _) ?_
          refine r_aload_n dX1_behindPart_122 rfl ?_
          refine r_cV0i dX1_behindPart_123 vlX1_74 sh_29 (Nat.le_of_ble_eq_true rfl) (kw_f ((xu_ne (by omega)).trans ((xu_ne (by omega)).trans e10)) E ex t I J P n (by omega) ht hE hq) ?_
          exact r_iret dX1_behindPart_126 rfl rfl rfl rfl
        · exact absurd (Int32.not_lt.mp h1) c111
    · intro E ex I J P n hn hP
      refine r_aload_n dX11_signs_217 rfl ?_
      refine r_cV0i dX11_signs_218 vlX11_353 sh_347 (Nat.le_of_ble_eq_true rfl) (ic_f e11 E ex I J P n (by omega) hP) ?_
      refine r_if_ne 226 dX11_signs_221 (by decide) (fun c221 => ?_) (fun c221 => ?_)
      · exact absurd c221 (by decide)
      · refine r_iconst (v := 0) dX11_signs_224 (by decide) ?_
        exact r_iret dX11_signs_225 rfl rfl rfl rfl
    · exact Qq.bad (Or.inr rfl) ((xu_ne (by omega)).trans ((xu_ne (by omega)).trans g28)) g10 ⟨fun a k z => (xu_ne (by omega)).trans ((xu_ne (by omega)).trans (hg.1 a k (by omega))), fun a k z => hg.2 a k (by omega)⟩
  have hK : ∀ a k, ¬ ((a = 507 ∧ k = 5) ∨ (a = 29 ∧ (k = 2 ∨ k = 4 ∨ k = 5)) ∨ (a = 30 ∧ k = nw)) → (xu (xu (xu (xu (xu K 29 4 1) 29 5 mn) 507 5 (nI (cnt + 1))) 30 nw (K 28 4)) 29 2 (nI (nw + 1))) a k = K a k := fun a k z => ((xu_ne (by omega)).trans ((xu_ne (by omega)).trans ((xu_ne (by omega)).trans ((xu_ne (by omega)).trans (xu_ne (by omega))))))
  have hM : ∀ a k, ¬ ((a = 347 ∧ (k = 47 ∨ k = 44 ∨ k = 48 ∨ k = 49)) ∨ (a = 372 ∧ k = nw)) → (xu (xu (xu (xu (xu M 347 47 (nI (cnt + 1))) 372 nw k0) 347 44 (nI (nw + 1))) 347 48 1) 347 49 mn) a k = M a k := fun a k z => ((xu_ne (by omega)).trans ((xu_ne (by omega)).trans ((xu_ne (by omega)).trans ((xu_ne (by omega)).trans (xu_ne (by omega))))))
  have t1 : jT s i p (xu (xu (xu (xu (xu K 29 4 1) 29 5 mn) 507 5 (nI (cnt + 1))) 30 nw (K 28 4)) 29 2 (nI (nw + 1))) (xu (xu (xu (xu (xu M 347 47 (nI (cnt + 1))) 372 nw k0) 347 44 (nI (nw + 1))) 347 48 1) 347 49 mn) := gt.c (fun a k z => hK a k (by omega)) (fun a k z => hM a k (by omega))
  obtain ⟨i1, p1, K1, M1, a1, a2, a3, a4, a5⟩ := adv_R t1
  have r1 : jR s0 q (cnt + 1) (nw + 1) ba h hs 1 (xu (xu (xu (xu (xu K 29 4 1) 29 5 mn) 507 5 (nI (cnt + 1))) 30 nw (K 28 4)) 29 2 (nI (nw + 1))) (xu (xu (xu (xu (xu M 347 47 (nI (cnt + 1))) 372 nw k0) 347 44 (nI (nw + 1))) 347 48 1) 347 49 mn) := z.push (c' := c + 1) (kc := K 28 4) (kr := k0) hw.1 (by omega) z3 (by omega) (Or.inr (Or.inr ⟨hw.2.1, hw.2.2, c, rfl, z5⟩)) (by simpa using z6) (xu_s _ _ _ _) ((xu_ne (by omega)).trans ((xu_ne (by omega)).trans (xu_s _ _ _ _))) ((hK _ _ (by omega)).trans e3) ((hM _ _ (by omega)).trans e4) ((xu_ne (by omega)).trans ((xu_ne (by omega)).trans ((xu_ne (by omega)).trans ((xu_ne (by omega)).trans (xu_s _ _ _ _))))) ((xu_ne (by omega)).trans (xu_s _ _ _ _)) (((xu_ne (by omega)).trans ((xu_ne (by omega)).trans ((xu_ne (by omega)).trans (xu_s _ _ _ _)))).trans (xu_s _ _ _ _).symm) ((xu_ne (by omega)).trans ((xu_ne (by omega)).trans (xu_s _ _ _ _))) ((xu_ne (by omega)).trans ((xu_ne (by omega)).trans ((xu_ne (by omega)).trans ((xu_ne (by omega)).trans (xu_s _ _ _ _))))) ((xu_ne (by omega)).trans (xu_s _ _ _ _)) ((xu_ne (by omega)).trans ((xu_ne (by omega)).trans ((xu_ne (by omega)).trans (xu_s _ _ _ _)))) (fun a k z => hK a k (by omega)) (fun a k z => hM a k (by omega))
  refine JG.fin (r := some (.int 0)) (r' := some (.int 1)) (K' := xu (xu (xu (xu (xu K 29 4 1) 29 5 mn) 507 5 (nI (cnt + 1))) 30 nw (K 28 4)) 29 2 (nI (nw + 1))) (M' := M1) ?_ ?_ ?_
  · intro E ex t I J P n hn ht hE hq
    refine r_aload_n dX1_behindPart_103 rfl ?_
    refine r_iconst (v := 1) dX1_behindPart_104 (by decide) ?_
    refine r_putIv dX1_behindPart_105 flX1_30 ⟨_, _, _, rfl, Or.inl rfl⟩ sh_29 (by decide) rfl rfl rfl (uC_xc ht (by decide) _ _) ?_
    have u28 : (xu (xu K 29 4 1) 29 5 mn) 28 4 = K 28 4 := (xu_ne (by omega)).trans (xu_ne (by omega))
    have kk := kw_t (K := (xu (xu K 29 4 1) 29 5 mn)) ((xu_ne (by omega)).trans ((xu_ne (by omega)).trans e10)) (show cnt < 64 by omega) ((xu_ne (by omega)).trans ((xu_ne (by omega)).trans e1)) (show nw < 72 by omega)
    rw [u28] at kk
    rcases hmn with ⟨h1, rfl⟩ | ⟨h1, rfl⟩
    · refine r_aload_n dX1_behindPart_108 rfl ?_
      refine r_iload_n dX1_behindPart_109 rfl ?_
      refine r_iconst (v := 3) dX1_behindPart_110 (by decide) ?_
      refine r_ic_ge 118 dX1_behindPart_111 (by decide) (fun c111 => ?_) (fun c111 => ?_)
      · exact absurd h1 (Int32.not_lt.mpr c111)
      · refine r_iconst (v := 1) dX1_behindPart_114 (by decide) ?_
        refine r_goto 119 dX1_behindPart_115 (by decide) ?_
        refine r_putIv dX1_behindPart_119 flX1_34 ⟨_, _, _, rfl, Or.inl rfl⟩ sh_29 (by decide) rfl rfl rfl (uC_xc ht (by decide) _ _) ?_
        refine r_aload_n dX1_behindPart_122 rfl ?_
        refine r_cV0i dX1_behindPart_123 vlX1_74 sh_29 (Nat.le_of_ble_eq_true rfl) (kk E ex t I J P n (by omega) ht hE hq) ?_
        exact r_iret dX1_behindPart_126 rfl rfl rfl rfl
    · refine r_aload_n dX1_behindPart_108 rfl ?_
      refine r_iload_n dX1_behindPart_109 rfl ?_
      refine r_iconst (v := 3) dX1_behindPart_110 (by decide) ?_
      refine r_ic_ge 118 dX1_behindPart_111 (by decide) (fun c111 => ?_) (fun c111 => ?_)
      · refine r_iconst (v := 0) dX1_behindPart_118 (by decide) ?_
        refine r_putIv dX1_behindPart_119 flX1_34 ⟨_, _, _, rfl, Or.inl rfl⟩ sh_29 (by decide) rfl rfl rfl (uC_xc ht (by decide) _ _) ?_
        refine r_aload_n dX1_behindPart_122 rfl ?_
        refine r_cV0i dX1_behindPart_123 vlX1_74 sh_29 (Nat.le_of_ble_eq_true rfl) (kk E ex t I J P n (by omega) ht hE hq) ?_
        exact r_iret dX1_behindPart_126 rfl rfl rfl rfl
      · exact absurd (Int32.not_lt.mp h1) c111
  · intro E ex I J P n hn hP
    rcases hmn with ⟨h1, rfl⟩ | ⟨h1, rfl⟩
    · refine r_aload_n dX11_signs_217 rfl ?_
      refine r_cV0i dX11_signs_218 vlX11_353 sh_347 (Nat.le_of_ble_eq_true rfl) (ic_t e11 (by omega) E ex I J P n (by omega) hP) ?_
      refine r_if_ne 226 dX11_signs_221 (by decide) (fun c221 => ?_) (fun c221 => ?_)
      · refine r_aload_n dX11_signs_226 rfl ?_
        refine r_iload_n dX11_signs_227 rfl ?_
        refine r_cV1v dX11_signs_228 vlX11_345 sh_347 (Nat.le_of_ble_eq_true rfl) (wf_r ((xu_ne (by omega)).trans e2) (by omega) k0 E ex I J P n (by omega) hP) ?_
        refine r_aload_n dX11_signs_231 rfl ?_
        refine r_iconst (v := 1) dX11_signs_232 (by decide) ?_
        refine r_putIv dX11_signs_233 flX11_359 ⟨_, _, _, rfl, Or.inl rfl⟩ sh_347 (by decide) rfl rfl rfl (uR_x (by decide) _ _) ?_
        refine r_aload_n dX11_signs_236 rfl ?_
        refine r_iload_n dX11_signs_237 rfl ?_
        refine r_cS1i dX11_signs_238 slX11_330 (Nat.le_of_ble_eq_true rfl) (k_ranky rfl _ (by omega)) ?_
        refine r_iconst (v := 3) dX11_signs_241 (by decide) ?_
        refine r_ic_ge 249 dX11_signs_242 (by decide) (fun c242 => ?_) (fun c242 => ?_)
        · exact absurd (by rw [← hw.1.r]; exact h1) (Int32.not_lt.mpr c242)
        · refine r_iconst (v := 1) dX11_signs_245 (by decide) ?_
          refine r_goto 250 dX11_signs_246 (by decide) ?_
          refine r_putIv dX11_signs_250 flX11_349 ⟨_, _, _, rfl, Or.inl rfl⟩ sh_347 (by decide) rfl rfl rfl (uR_x (by decide) _ _) ?_
          refine r_aload_n dX11_signs_253 rfl ?_
          refine r_cV0v dX11_signs_254 vlX11_245 sh_347 (Nat.le_of_ble_eq_true rfl) (a5 E ex I J P n (by omega) hP) ?_
          refine r_iconst (v := 1) dX11_signs_257 (by decide) ?_
          exact r_iret dX11_signs_258 rfl rfl rfl rfl
      · exact absurd c221 (by decide)
    · refine r_aload_n dX11_signs_217 rfl ?_
      refine r_cV0i dX11_signs_218 vlX11_353 sh_347 (Nat.le_of_ble_eq_true rfl) (ic_t e11 (by omega) E ex I J P n (by omega) hP) ?_
      refine r_if_ne 226 dX11_signs_221 (by decide) (fun c221 => ?_) (fun c221 => ?_)
      · refine r_aload_n dX11_signs_226 rfl ?_
        refine r_iload_n dX11_signs_227 rfl ?_
        refine r_cV1v dX11_signs_228 vlX11_345 sh_347 (Nat.le_of_ble_eq_true rfl) (wf_r ((xu_ne (by omega)).trans e2) (by omega) k0 E ex I J P n (by omega) hP) ?_
        refine r_aload_n dX11_signs_231 rfl ?_
        refine r_iconst (v := 1) dX11_signs_232 (by decide) ?_
        refine r_putIv dX11_signs_233 flX11_359 ⟨_, _, _, rfl, Or.inl rfl⟩ sh_347 (by decide) rfl rfl rfl (uR_x (by decide) _ _) ?_
        refine r_aload_n dX11_signs_236 rfl ?_
        refine r_iload_n dX11_signs_237 rfl ?_
        refine r_cS1i dX11_signs_238 slX11_330 (Nat.le_of_ble_eq_true rfl) (k_ranky rfl _ (by omega)) ?_
        refine r_iconst (v := 3) dX11_signs_241 (by decide) ?_
        refine r_ic_ge 249 dX11_signs_242 (by decide) (fun c242 => ?_) (fun c242 => ?_)
        · refine r_iconst (v := 0) dX11_signs_249 (by decide) ?_
          refine r_putIv dX11_signs_250 flX11_349 ⟨_, _, _, rfl, Or.inl rfl⟩ sh_347 (by decide) rfl rfl rfl (uR_x (by decide) _ _) ?_
          refine r_aload_n dX11_signs_253 rfl ?_
          refine r_cV0v dX11_signs_254 vlX11_245 sh_347 (Nat.le_of_ble_eq_true rfl) (a5 E ex I J P n (by omega) hP) ?_
          refine r_iconst (v := 1) dX11_signs_257 (by decide) ?_
          exact r_iret dX11_signs_258 rfl rfl rfl rfl
        · exact absurd (Int32.not_lt.mp (by rw [← hw.1.r]; exact h1)) c242
      · exact absurd c221 (by decide)
  · exact Qq.good a4 hpi a1 a2 a3 hq0 r1 (Or.inr rfl) ⟨fun a k z => (hK a k (by omega)).trans (hg.1 a k (by omega)), fun a k z => (hM a k (by omega)).trans (hg.2 a k (by omega))⟩ ((hM _ _ (by omega)).trans (hg.2 _ _ (by omega))) ((hM _ _ (by omega)).trans (hg.2 _ _ (by omega)))
set_option maxHeartbeats 8000000 in
theorem behind_J {s0 q cnt nw ba h : Nat} {hs : List Nat} {s i p : Nat} {K M : Nat → Nat → Int32} (z : jR s0 q cnt nw ba h hs 0 K M) (gt : jT s i p K M) : JG (cAt true 3 yX1_behindPart cX1_behindPart (some .int) 0 [some (.ref 29), none] [] K) (rAt 3 yX11_signs cX11_signs (some .boolean) 0 [some (.ref 347), none] [] M) (Qq s0 q s i p K M) := by
  have z' := z
  obtain ⟨z1, z2, z3, z4, ⟨c, z5, z6⟩, e1, e2, e3, e4, e5, e6, e7, e8, e9, e10, e11, e12, e13, e14, e15, e16⟩ := z'
  have hle := z5.le
  have h72 := z.n72
  by_cases hcl : K 28 4 = 34 ∧ 0 < ba
  case pos =>
    obtain ⟨hc1, hc2⟩ := hcl
    have y := gt.tk.sgn (k0 := 34) (w0 := 41) (Or.inr (Or.inr (Or.inl ⟨rfl, rfl⟩)))
    have y := y.resolve_right (fun e => e.1 hc1)
    obtain ⟨K1, M1, n1, q1, h1, hs1, s1, s2, s3, s4, s5, s6⟩ := stl_R (lv := 1) (by decide) z
    obtain ⟨b, rfl⟩ : ∃ b, ba = b + 1 := ⟨ba - 1, by omega⟩
    have s4' := s4
    obtain ⟨u1, u2, u3, u4, ⟨c1, u5, u6⟩, f1, f2, f3, f4, -⟩ := s4'
    obtain ⟨m, rfl, hm⟩ : ∃ m, n1 = m + 1 ∧ cRk (K1 30 m) < 1 := by
      rcases s5 with rfl | s5
      · have := u5.1; omega
      · exact s5
    have h33 : K1 30 m = 33 := u5.1.r0 hm
    have h72 := s4.n72
    have hq1 : M1 347 9 = M 347 9 := s6.2 _ _ (by omega)
    have hK : ∀ a k, ¬ (a = 29 ∧ (k = 2 ∨ k = 3)) → (xu (xu K1 29 2 (nI m)) 29 3 (nI b)) a k = K1 a k := fun a k z => ((xu_ne (by omega)).trans (xu_ne (by omega)))
    have hM : ∀ a k, ¬ (a = 347 ∧ (k = 44 ∨ k = 46)) → (xu (xu M1 347 44 (nI m)) 347 46 (nI b)) a k = M1 a k := fun a k z => ((xu_ne (by omega)).trans (xu_ne (by omega)))
    have t1 : jT s i p (xu (xu K1 29 2 (nI m)) 29 3 (nI b)) (xu (xu M1 347 44 (nI m)) 347 46 (nI b)) := gt.c (fun a k z => (hK a k (by omega)).trans (s6.1 a k (by omega))) (fun a k z => (hM a k (by omega)).trans (s6.2 a k (by omega)))
    obtain ⟨i1, p1, K2, M2, a1, a2, a3, a4, a5⟩ := adv_R t1
    have r1 : jR s0 q1 cnt m b h1 hs1 0 (xu (xu K1 29 2 (nI m)) 29 3 (nI b)) (xu (xu M1 347 44 (nI m)) 347 46 (nI b)) := s4.pop h33 ((xu_ne (by omega)).trans (xu_s _ _ _ _)) ((xu_ne (by omega)).trans (xu_s _ _ _ _)) (xu_s _ _ _ _) (xu_s _ _ _ _) (fun a k z => hK a k (by omega)) (fun a k z => hM a k (by omega))
    refine JG.fin (r := some (.int 0)) (r' := some (.int 1)) (K' := xu (xu K1 29 2 (nI m)) 29 3 (nI b)) (M' := M2) ?_ ?_ ?_
    · intro E ex t I J P n hn ht hE hq
      refine r_aload_n dX1_behindPart_0 rfl ?_
      refine r_getR dX1_behindPart_1 flX1_15 sh_29 (by decide) rfl (pf_29_0 hq.1) ?_
      refine r_getIv dX1_behindPart_4 flX1_68 sh_28 (by decide) rfl (uC_c ht (by decide) _) ?_
      refine r_bipush (v := 34) dX1_behindPart_7 (by decide) ?_
      refine r_ic_ne 50 dX1_behindPart_9 (by decide) (fun c9 => ?_) (fun c9 => ?_)
      · exact absurd hc1 c9
      · refine r_aload_n dX1_behindPart_12 rfl ?_
        refine r_getIv dX1_behindPart_13 flX1_27 sh_29 (by decide) rfl (uC_cv ht (by decide) e3) ?_
        refine r_if_le 50 dX1_behindPart_16 (by decide) (fun c16 => ?_) (fun c16 => ?_)
        · exact absurd c16 (nI_nle (by omega) (by omega))
        · refine r_aload_n dX1_behindPart_19 rfl ?_
          refine r_iconst (v := 1) dX1_behindPart_20 (by decide) ?_
          refine r_cV1v dX1_behindPart_21 vlX1_58 sh_29 (Nat.le_of_ble_eq_true rfl) (s1 E ex t I J P n (by omega) ht hE hq) ?_
          refine r_aload_n dX1_behindPart_24 rfl ?_
          refine r_iconst (v := 0) dX1_behindPart_25 (by decide) ?_
          refine r_aload_n dX1_behindPart_26 rfl ?_
          refine r_getIv dX1_behindPart_27 flX1_23 sh_29 (by decide) rfl (uC_cv ht (by decide) f1) ?_
          refine r_iconst (v := 1) dX1_behindPart_30 (by decide) ?_
          refine r_isub dX1_behindPart_31 ?_
          rw [nI_pred]
          refine r_mmax dX1_behindPart_32 hlX1_91 (Nat.le_of_ble_eq_true rfl) ?_
          rw [mx0 m (by omega)]
          refine r_putIv dX1_behindPart_35 flX1_23 ⟨_, _, _, rfl, Or.inl rfl⟩ sh_29 (by decide) rfl rfl rfl (uC_xc ht (by decide) _ _) ?_
          refine r_aload_n dX1_behindPart_38 rfl ?_
          refine r_dup dX1_behindPart_39 rfl ?_
          refine r_getIv dX1_behindPart_40 flX1_27 sh_29 (by decide) rfl (uC_cv ht (by decide) ((xu_ne (by omega)).trans f3)) ?_
          refine r_iconst (v := 1) dX1_behindPart_43 (by decide) ?_
          refine r_isub dX1_behindPart_44 ?_
          rw [nI_pred]
          refine r_putIv dX1_behindPart_45 flX1_27 ⟨_, _, _, rfl, Or.inl rfl⟩ sh_29 (by decide) rfl rfl rfl (uC_xc ht (by decide) _ _) ?_
          refine r_iconst (v := 0) dX1_behindPart_48 (by decide) ?_
          exact r_iret dX1_behindPart_49 rfl rfl rfl rfl
    · intro E ex I J P n hn hP
      refine r_aload_n dX11_signs_0 rfl ?_
      refine r_bipush (v := 41) dX11_signs_1 (by decide) ?_
      refine r_cV1i dX11_signs_3 vlX11_248 sh_347 (Nat.le_of_ble_eq_true rfl) (isSign_r_t y.2 E ex I J P n (by omega) hP) ?_
      refine r_if_eq 47 dX11_signs_6 (by decide) (fun c6 => ?_) (fun c6 => ?_)
      · exact absurd c6 (by decide)
      · refine r_aload_n dX11_signs_9 rfl ?_
        refine r_getIv dX11_signs_10 flX11_342 sh_347 (by decide) rfl (uR_v (by decide) e4) ?_
        refine r_if_le 47 dX11_signs_13 (by decide) (fun c13 => ?_) (fun c13 => ?_)
        · exact absurd c13 (nI_nle (by omega) (by omega))
        · refine r_aload_n dX11_signs_16 rfl ?_
          refine r_iconst (v := 1) dX11_signs_17 (by decide) ?_
          refine r_cV1v dX11_signs_18 vlX11_362 sh_347 (Nat.le_of_ble_eq_true rfl) (s2 E ex I J P n (by omega) hP) ?_
          refine r_aload_n dX11_signs_21 rfl ?_
          refine r_dup dX11_signs_22 rfl ?_
          refine r_getIv dX11_signs_23 flX11_327 sh_347 (by decide) rfl (uR_v (by decide) f2) ?_
          refine r_iconst (v := 1) dX11_signs_26 (by decide) ?_
          refine r_isub dX11_signs_27 ?_
          rw [nI_pred]
          refine r_putIv dX11_signs_28 flX11_327 ⟨_, _, _, rfl, Or.inl rfl⟩ sh_347 (by decide) rfl rfl rfl (uR_x (by decide) _ _) ?_
          refine r_aload_n dX11_signs_31 rfl ?_
          refine r_dup dX11_signs_32 rfl ?_
          refine r_getIv dX11_signs_33 flX11_342 sh_347 (by decide) rfl (uR_v (by decide) ((xu_ne (by omega)).trans f4)) ?_
          refine r_iconst (v := 1) dX11_signs_36 (by decide) ?_
          refine r_isub dX11_signs_37 ?_
          rw [nI_pred]
          refine r_putIv dX11_signs_38 flX11_342 ⟨_, _, _, rfl, Or.inl rfl⟩ sh_347 (by decide) rfl rfl rfl (uR_x (by decide) _ _) ?_
          refine r_aload_n dX11_signs_41 rfl ?_
          refine r_cV0v dX11_signs_42 vlX11_245 sh_347 (Nat.le_of_ble_eq_true rfl) (a5 E ex I J P n (by omega) hP) ?_
          refine r_iconst (v := 1) dX11_signs_45 (by decide) ?_
          exact r_iret dX11_signs_46 rfl rfl rfl rfl
    · exact Qq.good a4 (gt.2.2.2.1 (by rw [hc1]; decide)) a1 a2 a3 s3 r1 (Or.inl rfl) ⟨fun a k z => (hK a k (by omega)).trans (s6.1 a k (by omega)), fun a k z => (hM a k (by omega)).trans (s6.2 a k (by omega))⟩ ((hM _ _ (by omega)).trans (s6.2 _ _ (by omega))) ((hM _ _ (by omega)).trans (s6.2 _ _ (by omega)))
  have entC : ∀ r K', cAt true 3 yX1_behindPart cX1_behindPart (some .int) 50 [some (.ref 29), none] [] K r K' → cAt true 3 yX1_behindPart cX1_behindPart (some .int) 0 [some (.ref 29), none] [] K r K' := by
    intro r K' hk E ex t I J P n hn ht hE hq
    by_cases h34 : K 28 4 = 34
    · have hb : ba = 0 := by
        by_cases e : ba = 0
        · exact e
        · exact absurd ⟨h34, by omega⟩ hcl
      subst hb
      refine r_aload_n dX1_behindPart_0 rfl ?_
      refine r_getR dX1_behindPart_1 flX1_15 sh_29 (by decide) rfl (pf_29_0 hq.1) ?_
      refine r_getIv dX1_behindPart_4 flX1_68 sh_28 (by decide) rfl (uC_c ht (by decide) _) ?_
      refine r_bipush (v := 34) dX1_behindPart_7 (by decide) ?_
      refine r_ic_ne 50 dX1_behindPart_9 (by decide) (fun c9 => ?_) (fun c9 => ?_)
      · exact absurd h34 c9
      · refine r_aload_n dX1_behindPart_12 rfl ?_
        refine r_getIv dX1_behindPart_13 flX1_27 sh_29 (by decide) rfl (uC_cv ht (by decide) e3) ?_
        refine r_if_le 50 dX1_behindPart_16 (by decide) (fun c16 => ?_) (fun c16 => ?_)
        · exact hk E ex t I J P n hn ht hE hq
        · exact absurd (by decide) c16
    · refine r_aload_n dX1_behindPart_0 rfl ?_
      refine r_getR dX1_behindPart_1 flX1_15 sh_29 (by decide) rfl (pf_29_0 hq.1) ?_
      refine r_getIv dX1_behindPart_4 flX1_68 sh_28 (by decide) rfl (uC_c ht (by decide) _) ?_
      refine r_bipush (v := 34) dX1_behindPart_7 (by decide) ?_
      refine r_ic_ne 50 dX1_behindPart_9 (by decide) (fun c9 => ?_) (fun c9 => ?_)
      · exact hk E ex t I J P n hn ht hE hq
      · exact absurd c9 h34
  have entR : ∀ r M', rAt 3 yX11_signs cX11_signs (some .boolean) 47 [some (.ref 347), none] [] M r M' → rAt 3 yX11_signs cX11_signs (some .boolean) 0 [some (.ref 347), none] [] M r M' := by
    intro r M' hk E ex I J P n hn hP
    rcases gt.tk.sgn (k0 := 34) (w0 := 41) (Or.inr (Or.inr (Or.inl ⟨rfl, rfl⟩))) with ⟨h34, y⟩ | ⟨h34, y⟩
    · have hb : ba = 0 := by
        by_cases e : ba = 0
        · exact e
        · exact absurd ⟨h34, by omega⟩ hcl
      subst hb
      refine r_aload_n dX11_signs_0 rfl ?_
      refine r_bipush (v := 41) dX11_signs_1 (by decide) ?_
      refine r_cV1i dX11_signs_3 vlX11_248 sh_347 (Nat.le_of_ble_eq_true rfl) (isSign_r_t y E ex I J P n (by omega) hP) ?_
      refine r_if_eq 47 dX11_signs_6 (by decide) (fun c6 => ?_) (fun c6 => ?_)
      · exact absurd c6 (by decide)
      · refine r_aload_n dX11_signs_9 rfl ?_
        refine r_getIv dX11_signs_10 flX11_342 sh_347 (by decide) rfl (uR_v (by decide) e4) ?_
        refine r_if_le 47 dX11_signs_13 (by decide) (fun c13 => ?_) (fun c13 => ?_)
        · exact hk E ex I J P n hn hP
        · exact absurd (by decide) c13
    · refine r_aload_n dX11_signs_0 rfl ?_
      refine r_bipush (v := 41) dX11_signs_1 (by decide) ?_
      refine r_cV1i dX11_signs_3 vlX11_248 sh_347 (Nat.le_of_ble_eq_true rfl) (isSign_r_f y E ex I J P n (by omega) hP) ?_
      refine r_if_eq 47 dX11_signs_6 (by decide) (fun c6 => ?_) (fun c6 => ?_)
      · exact hk E ex I J P n hn hP
      · exact absurd c6 (by decide)
  refine JG.a entC (JG.b (fun r M' hk => entR r M' (sg_r hk)) ?_)
  rcases gt.tk.op with ⟨w1, w2, w3, w4⟩ | ⟨w1, w2⟩
  case inr =>
    refine JG.fin (r := some (.int 1)) (r' := some (.int 0)) (K' := K) (M' := fR M 1) ?_ ?_ ?_
    · intro E ex t I J P n hn ht hE hq
      rcases w1 with w1 | w1
      · refine r_aload_n dX1_behindPart_50 rfl ?_
        refine r_getR dX1_behindPart_51 flX1_15 sh_29 (by decide) rfl (pf_29_0 hq.1) ?_
        refine r_getIv dX1_behindPart_54 flX1_68 sh_28 (by decide) rfl (uC_c ht (by decide) _) ?_
        refine r_cS1i dX1_behindPart_57 slX1_97 (Nat.le_of_ble_eq_true rfl) (k_rankx rfl _ (by omega)) ?_
        refine r_istore_n1 dX1_behindPart_60 rfl ?_
        refine r_iload_n dX1_behindPart_61 rfl ?_
        refine r_if_eq 70 dX1_behindPart_62 (by decide) (fun c62 => ?_) (fun c62 => ?_)
        · refine r_iconst (v := 1) dX1_behindPart_70 (by decide) ?_
          exact r_iret dX1_behindPart_71 rfl rfl rfl rfl
        · exact absurd w1 c62
      · refine r_aload_n dX1_behindPart_50 rfl ?_
        refine r_getR dX1_behindPart_51 flX1_15 sh_29 (by decide) rfl (pf_29_0 hq.1) ?_
        refine r_getIv dX1_behindPart_54 flX1_68 sh_28 (by decide) rfl (uC_c ht (by decide) _) ?_
        refine r_cS1i dX1_behindPart_57 slX1_97 (Nat.le_of_ble_eq_true rfl) (k_rankx rfl _ (by omega)) ?_
        refine r_istore_n1 dX1_behindPart_60 rfl ?_
        refine r_iload_n dX1_behindPart_61 rfl ?_
        refine r_if_eq 70 dX1_behindPart_62 (by decide) (fun c62 => ?_) (fun c62 => ?_)
        · exact absurd (w1.symm.trans c62) (by decide)
        · refine r_iload_n dX1_behindPart_65 rfl ?_
          refine r_iconst (v := 3) dX1_behindPart_66 (by decide) ?_
          refine r_ic_ne 72 dX1_behindPart_67 (by decide) (fun c67 => ?_) (fun c67 => ?_)
          · exact absurd w1 c67
          · refine r_iconst (v := 1) dX1_behindPart_70 (by decide) ?_
            exact r_iret dX1_behindPart_71 rfl rfl rfl rfl
    · intro E ex I J P n hn hP
      refine r_iload_n dX11_signs_148 rfl ?_
      refine r_if_ne 158 dX11_signs_149 (by decide) (fun c149 => ?_) (fun c149 => ?_)
      · exact absurd w2 c149
      · refine r_aload_n dX11_signs_152 rfl ?_
        refine r_iconst (v := 1) dX11_signs_153 (by decide) ?_
        refine r_cV1i dX11_signs_154 vlX11_235 sh_347 (Nat.le_of_ble_eq_true rfl) (wrong_r 1 E ex I J P n (by omega) hP) ?_
        exact r_iret dX11_signs_157 rfl rfl rfl rfl
    · exact Qq.bad (Or.inl rfl) rfl rfl (agL.rf q K M)
  have hpi : p < i := gt.2.2.2.1 (by intro e; rw [e] at w3; exact absurd w3 (by decide))
  have rk : cRk (K 28 4) = rRk (opk (M 347 8) (M 347 9)) := w1.1.r
  have n0 : ¬ cRk (K 28 4) = 0 := fun e => by rw [e] at w3; exact absurd w3 (by decide)
  by_cases h4 : cRk (K 28 4) = 4
  · obtain ⟨K1, M1, n1, q1, h1, hs1, s1, s2, s3, s4, s5, s6⟩ := stl_R (lv := 5) (by decide) z
    have s4' := s4
    obtain ⟨u1, u2, u3, u4, ⟨c1, u5, u6⟩, f1, f2, f3, f4, -⟩ := s4'
    have h72 := s4.n72
    have t1 : jT s i p K1 M1 := gt.c (fun a k z => s6.1 a k (by omega)) (fun a k z => s6.2 a k (by omega))
    have k28 : K1 28 4 = K 28 4 := s6.1 _ _ (by omega)
    apply JG.ca (pc2 := 88)
    · intro r K' hk E ex t I J P n hn ht hE hq
      refine r_aload_n dX1_behindPart_50 rfl ?_
      refine r_getR dX1_behindPart_51 flX1_15 sh_29 (by decide) rfl (pf_29_0 hq.1) ?_
      refine r_getIv dX1_behindPart_54 flX1_68 sh_28 (by decide) rfl (uC_c ht (by decide) _) ?_
      refine r_cS1i dX1_behindPart_57 slX1_97 (Nat.le_of_ble_eq_true rfl) (k_rankx rfl _ (by omega)) ?_
      refine r_istore_n1 dX1_behindPart_60 rfl ?_
      refine r_iload_n dX1_behindPart_61 rfl ?_
      refine r_if_eq 70 dX1_behindPart_62 (by decide) (fun c62 => ?_) (fun c62 => ?_)
      · exact absurd c62 n0
      · refine r_iload_n dX1_behindPart_65 rfl ?_
        refine r_iconst (v := 3) dX1_behindPart_66 (by decide) ?_
        refine r_ic_ne 72 dX1_behindPart_67 (by decide) (fun c67 => ?_) (fun c67 => ?_)
        · refine r_aload_n dX1_behindPart_72 rfl ?_
          refine r_iload_n dX1_behindPart_73 rfl ?_
          refine r_iconst (v := 4) dX1_behindPart_74 (by decide) ?_
          refine r_ic_ne 84 dX1_behindPart_75 (by decide) (fun c75 => ?_) (fun c75 => ?_)
          · exact absurd h4 c75
          · refine r_iload_n dX1_behindPart_78 rfl ?_
            refine r_iconst (v := 1) dX1_behindPart_79 (by decide) ?_
            refine r_iadd dX1_behindPart_80 ?_
            refine r_goto 85 dX1_behindPart_81 (by decide) ?_
            rw [show cRk (K 28 4) + 1 = 5 by rw [h4]; decide]
            refine r_cV1v dX1_behindPart_85 vlX1_58 sh_29 (Nat.le_of_ble_eq_true rfl) (s1 E ex t I J P n (by omega) ht hE hq) ?_
            exact hk E ex t I J P n hn ht hE hq
        · exact absurd c67 w4
    apply JG.rb (pc2 := 178)
    · intro r K' hk E ex I J P n hn hP
      refine r_iload_n dX11_signs_148 rfl ?_
      refine r_if_ne 158 dX11_signs_149 (by decide) (fun c149 => ?_) (fun c149 => ?_)
      · refine r_aload_n dX11_signs_158 rfl ?_
        refine r_iload_n dX11_signs_159 rfl ?_
        refine r_cS1i dX11_signs_160 slX11_330 (Nat.le_of_ble_eq_true rfl) (k_ranky rfl _ (by omega)) ?_
        refine r_iconst (v := 4) dX11_signs_163 (by decide) ?_
        refine r_ic_ne 171 dX11_signs_164 (by decide) (fun c164 => ?_) (fun c164 => ?_)
        · exact absurd (rk.symm.trans h4) c164
        · refine r_iconst (v := 5) dX11_signs_167 (by decide) ?_
          refine r_goto 175 dX11_signs_168 (by decide) ?_
          refine r_cV1v dX11_signs_175 vlX11_362 sh_347 (Nat.le_of_ble_eq_true rfl) (s2 E ex I J P n (by omega) hP) ?_
          exact hk E ex I J P n hn hP
      · exact absurd c149 w2
    have tail := bh_J (K0 := K) (M0 := M) (q0 := q) (mn := 0) s3 s6 s4 t1 hpi (k0 := opk (M 347 8) (M 347 9)) (by rw [k28]; exact w1) (Or.inr ⟨by rw [k28, h4]; decide, rfl⟩)
    rw [k28] at tail
    rcases s5 with rfl | ⟨m, rfl, hm⟩
    · apply JG.ca (pc2 := 103)
      · intro r K' hk E ex t I J P n hn ht hE hq
        refine r_iload_n dX1_behindPart_88 rfl ?_
        refine r_iconst (v := 4) dX1_behindPart_89 (by decide) ?_
        refine r_ic_ne 103 dX1_behindPart_90 (by decide) (fun c90 => ?_) (fun c90 => ?_)
        · exact absurd h4 c90
        · refine r_aload_n dX1_behindPart_93 rfl ?_
          refine r_cV0i dX1_behindPart_94 vlX1_101 sh_29 (Nat.le_of_ble_eq_true rfl) (lr_0 f1 E ex t I J P n (by omega) ht hE hq) ?_
          refine r_iload_n dX1_behindPart_97 rfl ?_
          refine r_ic_ne 103 dX1_behindPart_98 (by decide) (fun c98 => ?_) (fun c98 => ?_)
          · exact hk E ex t I J P n hn ht hE hq
          · exact absurd (c98.trans h4) (by decide)
      apply JG.rb (pc2 := 217)
      · intro r K' hk E ex I J P n hn hP
        refine r_iload_n dX11_signs_178 rfl ?_
        refine r_cS1i dX11_signs_179 slX11_330 (Nat.le_of_ble_eq_true rfl) (k_ranky rfl _ (by omega)) ?_
        refine r_iconst (v := 4) dX11_signs_182 (by decide) ?_
        refine r_ic_ne 217 dX11_signs_183 (by decide) (fun c183 => ?_) (fun c183 => ?_)
        · exact absurd (rk.symm.trans h4) c183
        · refine r_aload_n dX11_signs_186 rfl ?_
          refine r_getIv dX11_signs_187 flX11_327 sh_347 (by decide) rfl (uR_v (by decide) f2) ?_
          refine r_if_le 217 dX11_signs_190 (by decide) (fun c190 => ?_) (fun c190 => ?_)
          · exact hk E ex I J P n hn hP
          · exact absurd (by decide) c190
      exact tail
    by_cases hm4 : cRk (K1 30 m) = 4
    · refine JG.fin (r := some (.int 1)) (r' := some (.int 0)) (K' := K1) (M' := fR M1 1) ?_ ?_ ?_
      · intro E ex t I J P n hn ht hE hq
        refine r_iload_n dX1_behindPart_88 rfl ?_
        refine r_iconst (v := 4) dX1_behindPart_89 (by decide) ?_
        refine r_ic_ne 103 dX1_behindPart_90 (by decide) (fun c90 => ?_) (fun c90 => ?_)
        · exact absurd h4 c90
        · refine r_aload_n dX1_behindPart_93 rfl ?_
          refine r_cV0i dX1_behindPart_94 vlX1_101 sh_29 (Nat.le_of_ble_eq_true rfl) (lr_s f1 (by omega) E ex t I J P n (by omega) ht hE hq) ?_
          refine r_iload_n dX1_behindPart_97 rfl ?_
          refine r_ic_ne 103 dX1_behindPart_98 (by decide) (fun c98 => ?_) (fun c98 => ?_)
          · exact absurd (hm4.trans h4.symm) c98
          · refine r_iconst (v := 1) dX1_behindPart_101 (by decide) ?_
            exact r_iret dX1_behindPart_102 rfl rfl rfl rfl
      · intro E ex I J P n hn hP
        refine r_iload_n dX11_signs_178 rfl ?_
        refine r_cS1i dX11_signs_179 slX11_330 (Nat.le_of_ble_eq_true rfl) (k_ranky rfl _ (by omega)) ?_
        refine r_iconst (v := 4) dX11_signs_182 (by decide) ?_
        refine r_ic_ne 217 dX11_signs_183 (by decide) (fun c183 => ?_) (fun c183 => ?_)
        · exact absurd (rk.symm.trans h4) c183
        · refine r_aload_n dX11_signs_186 rfl ?_
          refine r_getIv dX11_signs_187 flX11_327 sh_347 (by decide) rfl (uR_v (by decide) f2) ?_
          refine r_if_le 217 dX11_signs_190 (by decide) (fun c190 => ?_) (fun c190 => ?_)
          · exact absurd c190 (nI_nle (by omega) (by omega))
          · refine r_aload_n dX11_signs_193 rfl ?_
            refine r_getR dX11_signs_194 flX11_87 sh_347 (by decide) rfl (pf_347_42 hP) ?_
            refine r_aload_n dX11_signs_197 rfl ?_
            refine r_getIv dX11_signs_198 flX11_327 sh_347 (by decide) rfl (uR_v (by decide) f2) ?_
            refine r_iconst (v := 1) dX11_signs_201 (by decide) ?_
            refine r_isub dX11_signs_202 ?_
            rw [nI_pred]
            refine r_ialv dX11_signs_203 sh_372 (vp_in_nI (n := m) (by omega) (by decide)) ((uR_r (by decide) _).trans (congrArg (M1 372) (nI_clamp (n := m) (by omega)))) ?_
            refine r_cS1i dX11_signs_204 slX11_330 (Nat.le_of_ble_eq_true rfl) (k_ranky rfl _ (by omega)) ?_
            refine r_iconst (v := 4) dX11_signs_207 (by decide) ?_
            refine r_ic_ne 217 dX11_signs_208 (by decide) (fun c208 => ?_) (fun c208 => ?_)
            · exact absurd (u5.1.r.symm.trans hm4) c208
            · refine r_aload_n dX11_signs_211 rfl ?_
              refine r_iconst (v := 1) dX11_signs_212 (by decide) ?_
              refine r_cV1i dX11_signs_213 vlX11_235 sh_347 (Nat.le_of_ble_eq_true rfl) (wrong_r 1 E ex I J P n (by omega) hP) ?_
              exact r_iret dX11_signs_216 rfl rfl rfl rfl
      · exact Qq.bad (Or.inl rfl) (s6.1 _ _ (by omega)) (s6.2 _ _ (by omega)) s6.l
    apply JG.ca (pc2 := 103)
    · intro r K' hk E ex t I J P n hn ht hE hq
      refine r_iload_n dX1_behindPart_88 rfl ?_
      refine r_iconst (v := 4) dX1_behindPart_89 (by decide) ?_
      refine r_ic_ne 103 dX1_behindPart_90 (by decide) (fun c90 => ?_) (fun c90 => ?_)
      · exact absurd h4 c90
      · refine r_aload_n dX1_behindPart_93 rfl ?_
        refine r_cV0i dX1_behindPart_94 vlX1_101 sh_29 (Nat.le_of_ble_eq_true rfl) (lr_s f1 (by omega) E ex t I J P n (by omega) ht hE hq) ?_
        refine r_iload_n dX1_behindPart_97 rfl ?_
        refine r_ic_ne 103 dX1_behindPart_98 (by decide) (fun c98 => ?_) (fun c98 => ?_)
        · exact hk E ex t I J P n hn ht hE hq
        · exact absurd (c98.trans h4) hm4
    apply JG.rb (pc2 := 217)
    · intro r K' hk E ex I J P n hn hP
      refine r_iload_n dX11_signs_178 rfl ?_
      refine r_cS1i dX11_signs_179 slX11_330 (Nat.le_of_ble_eq_true rfl) (k_ranky rfl _ (by omega)) ?_
      refine r_iconst (v := 4) dX11_signs_182 (by decide) ?_
      refine r_ic_ne 217 dX11_signs_183 (by decide) (fun c183 => ?_) (fun c183 => ?_)
      · exact absurd (rk.symm.trans h4) c183
      · refine r_aload_n dX11_signs_186 rfl ?_
        refine r_getIv dX11_signs_187 flX11_327 sh_347 (by decide) rfl (uR_v (by decide) f2) ?_
        refine r_if_le 217 dX11_signs_190 (by decide) (fun c190 => ?_) (fun c190 => ?_)
        · exact absurd c190 (nI_nle (by omega) (by omega))
        · refine r_aload_n dX11_signs_193 rfl ?_
          refine r_getR dX11_signs_194 flX11_87 sh_347 (by decide) rfl (pf_347_42 hP) ?_
          refine r_aload_n dX11_signs_197 rfl ?_
          refine r_getIv dX11_signs_198 flX11_327 sh_347 (by decide) rfl (uR_v (by decide) f2) ?_
          refine r_iconst (v := 1) dX11_signs_201 (by decide) ?_
          refine r_isub dX11_signs_202 ?_
          rw [nI_pred]
          refine r_ialv dX11_signs_203 sh_372 (vp_in_nI (n := m) (by omega) (by decide)) ((uR_r (by decide) _).trans (congrArg (M1 372) (nI_clamp (n := m) (by omega)))) ?_
          refine r_cS1i dX11_signs_204 slX11_330 (Nat.le_of_ble_eq_true rfl) (k_ranky rfl _ (by omega)) ?_
          refine r_iconst (v := 4) dX11_signs_207 (by decide) ?_
          refine r_ic_ne 217 dX11_signs_208 (by decide) (fun c208 => ?_) (fun c208 => ?_)
          · exact hk E ex I J P n hn hP
          · exact absurd (u5.1.r.trans c208) hm4
    exact tail
  obtain ⟨K1, M1, n1, q1, h1, hs1, s1, s2, s3, s4, s5, s6⟩ := stl_R (lv := cRk (K 28 4)) w3 z
  have t1 : jT s i p K1 M1 := gt.c (fun a k z => s6.1 a k (by omega)) (fun a k z => s6.2 a k (by omega))
  have k28 : K1 28 4 = K 28 4 := s6.1 _ _ (by omega)
  apply JG.ca (pc2 := 103)
  · intro r K' hk E ex t I J P n hn ht hE hq
    refine r_aload_n dX1_behindPart_50 rfl ?_
    refine r_getR dX1_behindPart_51 flX1_15 sh_29 (by decide) rfl (pf_29_0 hq.1) ?_
    refine r_getIv dX1_behindPart_54 flX1_68 sh_28 (by decide) rfl (uC_c ht (by decide) _) ?_
    refine r_cS1i dX1_behindPart_57 slX1_97 (Nat.le_of_ble_eq_true rfl) (k_rankx rfl _ (by omega)) ?_
    refine r_istore_n1 dX1_behindPart_60 rfl ?_
    refine r_iload_n dX1_behindPart_61 rfl ?_
    refine r_if_eq 70 dX1_behindPart_62 (by decide) (fun c62 => ?_) (fun c62 => ?_)
    · exact absurd c62 n0
    · refine r_iload_n dX1_behindPart_65 rfl ?_
      refine r_iconst (v := 3) dX1_behindPart_66 (by decide) ?_
      refine r_ic_ne 72 dX1_behindPart_67 (by decide) (fun c67 => ?_) (fun c67 => ?_)
      · refine r_aload_n dX1_behindPart_72 rfl ?_
        refine r_iload_n dX1_behindPart_73 rfl ?_
        refine r_iconst (v := 4) dX1_behindPart_74 (by decide) ?_
        refine r_ic_ne 84 dX1_behindPart_75 (by decide) (fun c75 => ?_) (fun c75 => ?_)
        · refine r_iload_n dX1_behindPart_84 rfl ?_
          refine r_cV1v dX1_behindPart_85 vlX1_58 sh_29 (Nat.le_of_ble_eq_true rfl) (s1 E ex t I J P n (by omega) ht hE hq) ?_
          refine r_iload_n dX1_behindPart_88 rfl ?_
          refine r_iconst (v := 4) dX1_behindPart_89 (by decide) ?_
          refine r_ic_ne 103 dX1_behindPart_90 (by decide) (fun c90 => ?_) (fun c90 => ?_)
          · exact hk E ex t I J P n hn ht hE hq
          · exact absurd c90 h4
        · exact absurd c75 h4
      · exact absurd c67 w4
  apply JG.rb (pc2 := 217)
  · intro r K' hk E ex I J P n hn hP
    refine r_iload_n dX11_signs_148 rfl ?_
    refine r_if_ne 158 dX11_signs_149 (by decide) (fun c149 => ?_) (fun c149 => ?_)
    · refine r_aload_n dX11_signs_158 rfl ?_
      refine r_iload_n dX11_signs_159 rfl ?_
      refine r_cS1i dX11_signs_160 slX11_330 (Nat.le_of_ble_eq_true rfl) (k_ranky rfl _ (by omega)) ?_
      refine r_iconst (v := 4) dX11_signs_163 (by decide) ?_
      refine r_ic_ne 171 dX11_signs_164 (by decide) (fun c164 => ?_) (fun c164 => ?_)
      · refine r_iload_n dX11_signs_171 rfl ?_
        refine r_cS1i dX11_signs_172 slX11_330 (Nat.le_of_ble_eq_true rfl) (k_ranky rfl _ (by omega)) ?_
        rw [← rk]
        refine r_cV1v dX11_signs_175 vlX11_362 sh_347 (Nat.le_of_ble_eq_true rfl) (s2 E ex I J P n (by omega) hP) ?_
        refine r_iload_n dX11_signs_178 rfl ?_
        refine r_cS1i dX11_signs_179 slX11_330 (Nat.le_of_ble_eq_true rfl) (k_ranky rfl _ (by omega)) ?_
        refine r_iconst (v := 4) dX11_signs_182 (by decide) ?_
        refine r_ic_ne 217 dX11_signs_183 (by decide) (fun c183 => ?_) (fun c183 => ?_)
        · exact hk E ex I J P n hn hP
        · exact absurd (rk.trans c183) h4
      · exact absurd (rk.trans c164) h4
    · exact absurd c149 w2
  by_cases h3 : cRk (K 28 4) < 3
  · have tail := bh_J (K0 := K) (M0 := M) (q0 := q) (mn := 1) s3 s6 s4 t1 hpi (k0 := opk (M 347 8) (M 347 9)) (by rw [k28]; exact w1) (Or.inl ⟨by rw [k28]; exact h3, rfl⟩)
    rw [k28] at tail
    exact tail
  · have tail := bh_J (K0 := K) (M0 := M) (q0 := q) (mn := 0) s3 s6 s4 t1 hpi (k0 := opk (M 347 8) (M 347 9)) (by rw [k28]; exact w1) (Or.inr ⟨by rw [k28]; exact h3, rfl⟩)
    rw [k28] at tail
    exact tail
