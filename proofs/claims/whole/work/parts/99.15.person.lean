/-! lines of both sides: people -/
theorem JG.run {b : Bool} {h h2 : Nat} {y y2 : MethodName} {cc cc2 : ByteArray} {nL nL2 : Nat} {ret ret2 : Option FieldType} (hco : xCo y cc nL ret) (hco2 : xCo y2 cc2 nL2 ret2) {vs vs2 : List Value} {ls ls2 : List (Option Value)} (hls : xent vs nL = ls) (hle : (lg_sl vs).length ≤ nL) (hls2 : xent vs2 nL2 = ls2) (hle2 : (lg_sl vs2).length ≤ nL2) {K M : Nat → Nat → Int32} {Q : Option Value → (Nat → Nat → Int32) → Option Value → (Nat → Nat → Int32) → Prop} (g : JG (cAt b h y cc ret 0 ls [] K) (rAt h2 y2 cc2 ret2 0 ls2 [] M) Q) : ∃ r K' r' M', cRun b (h + 1) y (fun _ => vs) K r K' ∧ rRun (h2 + 1) y2 vs2 M r' M' ∧ Q r K' r' M' := by
  obtain ⟨r, K', r', M', g1, g2, g3⟩ := g
  exact ⟨r, K', r', M', cAt.run hco hls hle g1, rAt.run hco2 hls2 hle2 g2, g3⟩
theorem JG.ca {b : Bool} {h : Nat} {y : MethodName} {cc : ByteArray} {ret : Option FieldType} {pc pc2 : Nat} {ls ls2 : List (Option Value)} {st st2 : List Value} {K K2 : Nat → Nat → Int32} {B : xJ} {Q : Option Value → (Nat → Nat → Int32) → Option Value → (Nat → Nat → Int32) → Prop} (z : ∀ r K', cAt b h y cc ret pc2 ls2 st2 K2 r K' → cAt b h y cc ret pc ls st K r K') (g : JG (cAt b h y cc ret pc2 ls2 st2 K2) B Q) : JG (cAt b h y cc ret pc ls st K) B Q := JG.a z g
theorem JG.rb {h : Nat} {y : MethodName} {cc : ByteArray} {ret : Option FieldType} {pc pc2 : Nat} {ls ls2 : List (Option Value)} {st st2 : List Value} {M M2 : Nat → Nat → Int32} {A : xJ} {Q : Option Value → (Nat → Nat → Int32) → Option Value → (Nat → Nat → Int32) → Prop} (z : ∀ r M', rAt h y cc ret pc2 ls2 st2 M2 r M' → rAt h y cc ret pc ls st M r M') (g : JG A (rAt h y cc ret pc2 ls2 st2 M2) Q) : JG A (rAt h y cc ret pc ls st M) Q := JG.b z g
/-- how a line ends: alike, and with a fault, or with what Q says -/
def Qe (M : Nat → Nat → Int32) (Q : (Nat → Nat → Int32) → (Nat → Nat → Int32) → Prop) : Option Value → (Nat → Nat → Int32) → Option Value → (Nat → Nat → Int32) → Prop := fun r K' r' M' => r = r' ∧ LF M M' ∧ jF K' M' ∧ jB K' ∧ (r = some (.int 0) ∨ (r = some (.int 1) ∧ Q K' M'))
theorem Qe.bad {M M1 K1 : Nat → Nat → Int32} {s i p : Nat} {Q : (Nat → Nat → Int32) → (Nat → Nat → Int32) → Prop} (h : jT s i p K1 M1) (hl : LF M M1) (hb : jB K1) (n : Int32) : Qe M Q (some (.int 0)) (fC K1 n) (some (.int 0)) (fR M1 n) := ⟨rfl, hl.tr (bad_N K1 M1 n).lf, bad_F h n, (bad_N K1 M1 n).gb hb, Or.inl rfl⟩
theorem Qe.m0 {M K1 M1 : Nat → Nat → Int32} {Q : (Nat → Nat → Int32) → (Nat → Nat → Int32) → Prop} (hl : LF M M1) (hf : jF K1 M1) (hb : jB K1) : Qe M Q (some (.int 0)) K1 (some (.int 0)) M1 := ⟨rfl, hl, hf, hb, Or.inl rfl⟩
theorem Qe.m1 {M K1 M1 : Nat → Nat → Int32} {Q : (Nat → Nat → Int32) → (Nat → Nat → Int32) → Prop} (hl : LF M M1) (hf : jF K1 M1) (hb : jB K1) (hq : Q K1 M1) : Qe M Q (some (.int 1)) K1 (some (.int 1)) M1 := ⟨rfl, hl, hf, hb, Or.inr ⟨rfl, hq⟩⟩
theorem jD.up {np np' nd : Nat} {K M : Nat → Nat → Int32} (h : jD np nd K M) (hn : np ≤ np') : jD np' nd K M := by
  obtain ⟨h0, h1, h2, h3, h4, h5, h6, h7⟩ := h
  refine ⟨h0, h1, h2, h3, h4, fun j hj => ?_, h6, h7⟩
  have z := h5 j hj
  exact ⟨vp_in_iff.mpr (by have := vp_in_iff.mp z.1; omega), z.2.1, vp_in_iff.mpr (by have := vp_in_iff.mp z.2.2.1; omega), z.2.2.2⟩
theorem jX.up {np np' nc : Nat} {K M : Nat → Nat → Int32} (h : jX np nc K M) (hn : np ≤ np') : jX np' nc K M := by
  obtain ⟨h0, h1, h2, h3⟩ := h
  refine ⟨h0, h1, h2, fun j hj => ?_⟩
  have z := h3 j hj
  exact ⟨vp_in_iff.mpr (by have := vp_in_iff.mp z.1; omega), z.2⟩
set_option maxHeartbeats 1000000 in
theorem addP_c {K : Nat → Nat → Int32} {np : Nat} (hn0 : np < 6) (hp : K 500 3 = nI np) (x1 x2 x3 : Int32) : cRun false 1 yX6_addPerson (fun t => [.ref t, .int x1, .int x2, .int x3]) K none (xu (xu (xu (xu K 501 np x1) 502 np x2) 503 np x3) 500 3 (nI (np + 1))) := by
  intro E ex t I J P n hn ht hE hq
  obtain ⟨d, rfl⟩ : ∃ d, n = d + 1 := ⟨n - 1, by omega⟩
  refine x_enter cqX6_addPerson [some (.ref t), some (.int x1), some (.int x2), some (.int x3)] rfl (by simp [lg_sl, Value.category]) ?_
  refine r_aload_n dX6_addPerson_0 rfl ?_
  refine r_getIv dX6_addPerson_1 flX6_40 (tl_s _ ht) (by decide) rfl (uC_t0v hp) ?_
  refine r_bipush (v := 6) dX6_addPerson_4 (by decide) ?_
  refine r_ic_ge 49 dX6_addPerson_6 (by decide) (fun c6 => ?_) (fun c6 => ?_)
  · exact absurd c6 (nI_ge (a := np) (b := 6) hn0 (by decide))
  · refine r_aload_n dX6_addPerson_9 rfl ?_
    refine r_getR dX6_addPerson_10 flX6_9 (tl_s _ ht) (by decide) rfl (tl_p0 hq.1 _ ht) ?_
    refine r_aload_n dX6_addPerson_13 rfl ?_
    refine r_getIv dX6_addPerson_14 flX6_40 (tl_s _ ht) (by decide) rfl (uC_t0v hp) ?_
    refine r_iload_n dX6_addPerson_17 rfl ?_
    refine r_iasv dX6_addPerson_18 (tl_a0 _ ht) (vp_in_nI (n := np) (by omega) (by decide)) ((congrArg (fun z => xu _ _ z _) (nI_clamp (n := np) (by omega))).trans (uC_xb (b := 501) (by decide) (by decide) _ _ ht)) ?_
    refine r_aload_n dX6_addPerson_19 rfl ?_
    refine r_getR dX6_addPerson_20 flX6_15 (tl_s _ ht) (by decide) rfl (tl_p1 hq.1 _ ht) ?_
    refine r_aload_n dX6_addPerson_23 rfl ?_
    refine r_getIv dX6_addPerson_24 flX6_40 (tl_s _ ht) (by decide) rfl (uC_t0v ((xu_ne (by omega)).trans hp)) ?_
    refine r_iload_n dX6_addPerson_27 rfl ?_
    refine r_iasv dX6_addPerson_28 (tl_a1 _ ht) (vp_in_nI (n := np) (by omega) (by decide)) ((congrArg (fun z => xu _ _ z _) (nI_clamp (n := np) (by omega))).trans (uC_xb (b := 502) (by decide) (by decide) _ _ ht)) ?_
    refine r_aload_n dX6_addPerson_29 rfl ?_
    refine r_getR dX6_addPerson_30 flX6_18 (tl_s _ ht) (by decide) rfl (tl_p2 hq.1 _ ht) ?_
    refine r_aload_n dX6_addPerson_33 rfl ?_
    refine r_getIv dX6_addPerson_34 flX6_40 (tl_s _ ht) (by decide) rfl (uC_t0v ((xu_ne (by omega)).trans ((xu_ne (by omega)).trans hp))) ?_
    refine r_iload_n dX6_addPerson_37 rfl ?_
    refine r_iasv dX6_addPerson_38 (tl_a2 _ ht) (vp_in_nI (n := np) (by omega) (by decide)) ((congrArg (fun z => xu _ _ z _) (nI_clamp (n := np) (by omega))).trans (uC_xb (b := 503) (by decide) (by decide) _ _ ht)) ?_
    refine r_aload_n dX6_addPerson_39 rfl ?_
    refine r_dup dX6_addPerson_40 rfl ?_
    refine r_getIv dX6_addPerson_41 flX6_40 (tl_s _ ht) (by decide) rfl (uC_t0v ((xu_ne (by omega)).trans ((xu_ne (by omega)).trans ((xu_ne (by omega)).trans hp)))) ?_
    refine r_iconst (v := 1) dX6_addPerson_44 (by decide) ?_
    refine r_iadd dX6_addPerson_45 ?_
    rw [nI_1]
    refine r_putIv dX6_addPerson_46 flX6_40 ⟨_, _, _, rfl, Or.inl rfl⟩ (tl_s _ ht) (by decide) rfl rfl rfl (uC_xt0 _ _ ht) ?_
    exact r_vret dX6_addPerson_49 rfl rfl rfl
set_option maxHeartbeats 4000000 in
theorem pers_2 {s i p np nd nc q ln : Nat} {K M : Nat → Nat → Int32} (h : Rl s i p np nd nc q ln K M) (hn0 : np < 6) {i2 p2 : Nat} {K2 M2 : Nat → Nat → Int32} (hp2 : p < i2) (g2 : jT s i2 p2 K2 M2) (eK : ∀ a k, ¬ a = 28 → K2 a k = K a k) (eM : ∀ a k, ¬ ((a = 347 ∧ 6 ≤ k ∧ k ≤ 11) ∨ ((352 ≤ a ∧ a ≤ 355) ∧ k = 6 + np)) → M2 a k = M a k) {x sd : Int32} (m2 : M2 352 (6 + np) = x) (m3 : M2 353 (6 + np) = sd) (hsd : sd = 0 ∨ sd = 1) : JG (cAt false 4 yX7_personLine cX7_personLine (some .boolean) 123 [some (.ref 2), some (.int x), some (.int sd), none] [] K2) (rAt 3 yX11_personLine cX11_personLine (some .boolean) 118 [some (.ref 347), some (.int (nI (6 + np)))] [] M2) (Qe M (fun K' M' => ∃ i' p' np' nd' nc' q', p < p' ∧ Rl s i' p' np' nd' nc' q' ln K' M')) := by
  obtain ⟨gt, gf, gp, gd, gx, go, gw, gb⟩ := h
  have hf2 : jF K2 M2 := gf.c (fun a k z => eK a k (by omega)) (fun a k z => eM a k (by omega))
  have hb2 : jB K2 := gb.c (fun a k z => eK a k (by omega))
  have hl2 : LF M M2 := LF.of fun a k z => eM a k (by omega)
  obtain ⟨i3, p3, K3, M3, b1, b2, b3, b4, b5⟩ := adv_R g2
  apply JG.ca (pc2 := 130)
  · intro r K' hk E ex t I J P n hn ht hE hq
    refine r_aload_n dX7_personLine_123 rfl ?_
    refine r_getR dX7_personLine_124 flX7_32 sh_2 (by decide) rfl (pf_2_0 hq.1) ?_
    refine r_cV0v dX7_personLine_127 vlX7_99 sh_28 (Nat.le_of_ble_eq_true rfl) (b4 E ex t I J P n (by omega) ht hE hq) ?_
    exact hk E ex t I J P n hn ht hE hq
  apply JG.rb (pc2 := 122)
  · intro r K' hk E ex I J P n hn hP
    refine r_aload_n dX11_personLine_118 rfl ?_
    refine r_cV0v dX11_personLine_119 vlX11_245 sh_347 (Nat.le_of_ble_eq_true rfl) (b5 E ex I J P n (by omega) hP) ?_
    exact hk E ex I J P n hn hP
  obtain ⟨r4, K4, M4, c1, c2, c3, c4, c5⟩ := num_R (lo := 0) (hi := 999) (by decide) (by decide) b2 (hf2.c (fun a k z => b3.1 a k (by omega)) (fun a k z => b3.2 a k (by omega)))
  have hl4 : LF M M4 := hl2.tr (b3.lf.tr c4.lf)
  have hb4 : jB K4 := c4.gb (hb2.c (fun a k z => b3.1 a k (by omega)))
  rcases c5 with rfl | ⟨rfl, i4, p4, x4, d1, d2, d3, d4, d5, d6, d7⟩
  · refine JG.fin (r := some (.int 0)) (r' := some (.int 0)) ?_ ?_ (Qe.m0 hl4 c3 hb4)
    · intro E ex t I J P n hn ht hE hq
      refine r_aload_n dX7_personLine_130 rfl ?_
      refine r_iconst (v := 0) dX7_personLine_131 (by decide) ?_
      refine r_sipush (v := 999) dX7_personLine_132 (by decide) ?_
      refine r_cV2i dX7_personLine_135 vlX7_119 sh_2 (Nat.le_of_ble_eq_true rfl) (c1 E ex t I J P n (by omega) ht hE hq) ?_
      refine r_if_ne 143 dX7_personLine_138 (by decide) (fun c138 => ?_) (fun c138 => ?_)
      · exact absurd c138 (by decide)
      · refine r_iconst (v := 0) dX7_personLine_141 (by decide) ?_
        exact r_iret dX7_personLine_142 rfl rfl rfl rfl
    · intro E ex I J P n hn hP
      refine r_aload_n dX11_personLine_122 rfl ?_
      refine r_iconst (v := 0) dX11_personLine_123 (by decide) ?_
      refine r_sipush (v := 999) dX11_personLine_124 (by decide) ?_
      refine r_cV2i dX11_personLine_127 vlX11_251 sh_347 (Nat.le_of_ble_eq_true rfl) (c2 E ex I J P n (by omega) hP) ?_
      refine r_if_ne 135 dX11_personLine_130 (by decide) (fun c130 => ?_) (fun c130 => ?_)
      · exact absurd c130 (by decide)
      · refine r_iconst (v := 0) dX11_personLine_133 (by decide) ?_
        exact r_iret dX11_personLine_134 rfl rfl rfl rfl
  apply JG.ca (pc2 := 148)
  · intro r K' hk E ex t I J P n hn ht hE hq
    refine r_aload_n dX7_personLine_130 rfl ?_
    refine r_iconst (v := 0) dX7_personLine_131 (by decide) ?_
    refine r_sipush (v := 999) dX7_personLine_132 (by decide) ?_
    refine r_cV2i dX7_personLine_135 vlX7_119 sh_2 (Nat.le_of_ble_eq_true rfl) (c1 E ex t I J P n (by omega) ht hE hq) ?_
    refine r_if_ne 143 dX7_personLine_138 (by decide) (fun c138 => ?_) (fun c138 => ?_)
    · refine r_aload_n dX7_personLine_143 rfl ?_
      refine r_getIv dX7_personLine_144 flX7_105 sh_2 (by decide) rfl (uC_cv ht (by decide) d6) ?_
      refine r_istore_n3 dX7_personLine_147 rfl ?_
      exact hk E ex t I J P n hn ht hE hq
    · exact absurd c138 (by decide)
  apply JG.rb (pc2 := 145)
  · intro r K' hk E ex I J P n hn hP
    refine r_aload_n dX11_personLine_122 rfl ?_
    refine r_iconst (v := 0) dX11_personLine_123 (by decide) ?_
    refine r_sipush (v := 999) dX11_personLine_124 (by decide) ?_
    refine r_cV2i dX11_personLine_127 vlX11_251 sh_347 (Nat.le_of_ble_eq_true rfl) (c2 E ex I J P n (by omega) hP) ?_
    refine r_if_ne 135 dX11_personLine_130 (by decide) (fun c130 => ?_) (fun c130 => ?_)
    · refine r_aload_n dX11_personLine_135 rfl ?_
      refine r_getR dX11_personLine_136 flX11_33 sh_347 (by decide) rfl (pf_347_24 hP) ?_
      refine r_iload_n dX11_personLine_139 rfl ?_
      refine r_aload_n dX11_personLine_140 rfl ?_
      refine r_getIv dX11_personLine_141 flX11_242 sh_347 (by decide) rfl (uR_v (by decide) d7) ?_
      refine r_iasv dX11_personLine_144 sh_354 (vp_in_nI (n := 6 + np) (by omega) (by decide)) ((congrArg (fun z => xu _ _ z _) (nI_clamp (n := 6 + np) (by omega))).trans (uR_x (by decide) _ _)) ?_
      exact hk E ex I J P n hn hP
    · exact absurd c130 (by decide)
  have g4 : jT s i4 p4 K4 (xu M4 354 (6 + np) (nI x4)) := d4.c (fun a k z => rfl) (fun a k z => xu_ne (by omega))
  obtain ⟨r5, K5, M5, e1, e2, e3, e4, e5⟩ := num_R (lo := 1) (hi := 99) (by decide) (by decide) g4 (c3.c (fun a k z => rfl) (fun a k z => xu_ne (by omega)))
  have hl5 : LF M M5 := (hl4.x (by omega)).tr e4.lf
  have hb5 : jB K5 := e4.gb hb4
  rcases e5 with rfl | ⟨rfl, i5, p5, x5, f1, f2, f3, f4, f5, f6, f7⟩
  · refine JG.fin (r := some (.int 0)) (r' := some (.int 0)) ?_ ?_ (Qe.m0 hl5 e3 hb5)
    · intro E ex t I J P n hn ht hE hq
      refine r_aload_n dX7_personLine_148 rfl ?_
      refine r_iconst (v := 1) dX7_personLine_149 (by decide) ?_
      refine r_bipush (v := 99) dX7_personLine_150 (by decide) ?_
      refine r_cV2i dX7_personLine_152 vlX7_119 sh_2 (Nat.le_of_ble_eq_true rfl) (e1 E ex t I J P n (by omega) ht hE hq) ?_
      refine r_if_ne 160 dX7_personLine_155 (by decide) (fun c155 => ?_) (fun c155 => ?_)
      · exact absurd c155 (by decide)
      · refine r_iconst (v := 0) dX7_personLine_158 (by decide) ?_
        exact r_iret dX7_personLine_159 rfl rfl rfl rfl
    · intro E ex I J P n hn hP
      refine r_aload_n dX11_personLine_145 rfl ?_
      refine r_iconst (v := 1) dX11_personLine_146 (by decide) ?_
      refine r_bipush (v := 99) dX11_personLine_147 (by decide) ?_
      refine r_cV2i dX11_personLine_149 vlX11_251 sh_347 (Nat.le_of_ble_eq_true rfl) (e2 E ex I J P n (by omega) hP) ?_
      refine r_if_ne 157 dX11_personLine_152 (by decide) (fun c152 => ?_) (fun c152 => ?_)
      · exact absurd c152 (by decide)
      · refine r_iconst (v := 0) dX11_personLine_155 (by decide) ?_
        exact r_iret dX11_personLine_156 rfl rfl rfl rfl
  have o1 := b2.2.2.1
  have o2 := d4.2.2.1
  have fK : ∀ a k, ¬ (a = 28 ∨ (a = 2 ∧ k = 6)) → K5 a k = K a k := fun a k z => (f5.1 a k (by omega)).trans ((d5.1 a k (by omega)).trans ((b3.1 a k (by omega)).trans (eK a k (by omega))))
  have fM : ∀ a k, ¬ ((a = 347 ∧ 6 ≤ k ∧ k ≤ 11) ∨ ((352 ≤ a ∧ a ≤ 355) ∧ k = 6 + np)) → M5 a k = M a k := fun a k z => (f5.2 a k (by omega)).trans ((xu_ne (by omega)).trans ((d5.2 a k (by omega)).trans ((b3.2 a k (by omega)).trans (eM a k (by omega)))))
  have f8 : K5 500 3 = nI np := (fK 500 3 (by omega)).trans gp.2.1
  have f9 : M5 347 16 = nI np := (fM 347 16 (by omega)).trans gp.2.2.1
  have y2 : M5 352 (6 + np) = x := (f5.2 _ _ (by omega)).trans ((xu_ne (by omega)).trans ((d5.2 _ _ (by omega)).trans ((b3.2 _ _ (by omega)).trans m2)))
  have y3 : M5 353 (6 + np) = sd := (f5.2 _ _ (by omega)).trans ((xu_ne (by omega)).trans ((d5.2 _ _ (by omega)).trans ((b3.2 _ _ (by omega)).trans m3)))
  have y4 : M5 354 (6 + np) = nI x4 := (f5.2 _ _ (by omega)).trans (xu_s _ _ _ _)
  refine JG.fin (r := some (.int 1)) (r' := some (.int 1)) (K' := xu (xu (xu (xu (xu (xu K5 17 np (nI x4)) 18 np sd) 501 np x) 502 np sd) 503 np (nI x5)) 500 3 (nI (np + 1))) (M' := xu (xu M5 355 (6 + np) (nI x5)) 347 16 (nI (np + 1))) ?_ ?_ ?_
  · intro E ex t I J P n hn ht hE hq
    refine r_aload_n dX7_personLine_148 rfl ?_
    refine r_iconst (v := 1) dX7_personLine_149 (by decide) ?_
    refine r_bipush (v := 99) dX7_personLine_150 (by decide) ?_
    refine r_cV2i dX7_personLine_152 vlX7_119 sh_2 (Nat.le_of_ble_eq_true rfl) (e1 E ex t I J P n (by omega) ht hE hq) ?_
    refine r_if_ne 160 dX7_personLine_155 (by decide) (fun c155 => ?_) (fun c155 => ?_)
    · refine r_aload_n dX7_personLine_160 rfl ?_
      refine r_getR dX7_personLine_161 flX7_23 sh_2 (by decide) rfl (pf_2_3 hq.1) ?_
      refine r_getR dX7_personLine_164 flX7_122 sh_16 (by decide) rfl (pf_16_1 hq.1) ?_
      refine r_aload_n dX7_personLine_167 rfl ?_
      refine r_getR dX7_personLine_168 flX7_12 sh_2 (by decide) rfl hq.2.1 ?_
      refine r_getIv dX7_personLine_171 flX7_108 (tl_s _ ht) (by decide) rfl (uC_t0v f8) ?_
      refine r_iload_n dX7_personLine_174 rfl ?_
      refine r_iasv dX7_personLine_175 sh_17 (vp_in_nI (n := np) (by omega) (by decide)) ((congrArg (fun z => xu _ _ z _) (nI_clamp (n := np) (by omega))).trans (uC_xc ht (by decide) _ _)) ?_
      refine r_aload_n dX7_personLine_176 rfl ?_
      refine r_getR dX7_personLine_177 flX7_23 sh_2 (by decide) rfl (pf_2_3 hq.1) ?_
      refine r_getR dX7_personLine_180 flX7_126 sh_16 (by decide) rfl (pf_16_2 hq.1) ?_
      refine r_aload_n dX7_personLine_183 rfl ?_
      refine r_getR dX7_personLine_184 flX7_12 sh_2 (by decide) rfl hq.2.1 ?_
      refine r_getIv dX7_personLine_187 flX7_108 (tl_s _ ht) (by decide) rfl (uC_t0v ((xu_ne (by omega)).trans f8)) ?_
      refine r_iload_n dX7_personLine_190 rfl ?_
      refine r_iasv dX7_personLine_191 sh_18 (vp_in_nI (n := np) (by omega) (by decide)) ((congrArg (fun z => xu _ _ z _) (nI_clamp (n := np) (by omega))).trans (uC_xc ht (by decide) _ _)) ?_
      refine r_aload_n dX7_personLine_192 rfl ?_
      refine r_getR dX7_personLine_193 flX7_12 sh_2 (by decide) rfl hq.2.1 ?_
      refine r_iload_n dX7_personLine_196 rfl ?_
      refine r_iload_n dX7_personLine_197 rfl ?_
      refine r_aload_n dX7_personLine_198 rfl ?_
      refine r_getIv dX7_personLine_199 flX7_105 sh_2 (by decide) rfl (uC_cv ht (by decide) ((xu_ne (by omega)).trans ((xu_ne (by omega)).trans f6))) ?_
      refine r_cV3v dX7_personLine_202 vlX7_129 (tl_s _ ht) (Nat.le_of_ble_eq_true rfl) (addP_c (by omega) ((xu_ne (by omega)).trans ((xu_ne (by omega)).trans f8)) _ _ _ E ex t I J P n (by omega) ht hE hq) ?_
      refine r_iconst (v := 1) dX7_personLine_205 (by decide) ?_
      exact r_iret dX7_personLine_206 rfl rfl rfl rfl
    · exact absurd c155 (by decide)
  · intro E ex I J P n hn hP
    refine r_aload_n dX11_personLine_145 rfl ?_
    refine r_iconst (v := 1) dX11_personLine_146 (by decide) ?_
    refine r_bipush (v := 99) dX11_personLine_147 (by decide) ?_
    refine r_cV2i dX11_personLine_149 vlX11_251 sh_347 (Nat.le_of_ble_eq_true rfl) (e2 E ex I J P n (by omega) hP) ?_
    refine r_if_ne 157 dX11_personLine_152 (by decide) (fun c152 => ?_) (fun c152 => ?_)
    · refine r_aload_n dX11_personLine_157 rfl ?_
      refine r_getR dX11_personLine_158 flX11_36 sh_347 (by decide) rfl (pf_347_25 hP) ?_
      refine r_iload_n dX11_personLine_161 rfl ?_
      refine r_aload_n dX11_personLine_162 rfl ?_
      refine r_getIv dX11_personLine_163 flX11_242 sh_347 (by decide) rfl (uR_v (by decide) f7) ?_
      refine r_iasv dX11_personLine_166 sh_355 (vp_in_nI (n := 6 + np) (by omega) (by decide)) ((congrArg (fun z => xu _ _ z _) (nI_clamp (n := 6 + np) (by omega))).trans (uR_x (by decide) _ _)) ?_
      refine r_aload_n dX11_personLine_167 rfl ?_
      refine r_dup dX11_personLine_168 rfl ?_
      refine r_getIv dX11_personLine_169 flX11_255 sh_347 (by decide) rfl (uR_v (by decide) ((xu_ne (by omega)).trans f9)) ?_
      refine r_iconst (v := 1) dX11_personLine_172 (by decide) ?_
      refine r_iadd dX11_personLine_173 ?_
      rw [nI_1]
      refine r_putIv dX11_personLine_174 flX11_255 ⟨_, _, _, rfl, Or.inl rfl⟩ sh_347 (by decide) rfl rfl rfl (uR_x (by decide) _ _) ?_
      refine r_iconst (v := 1) dX11_personLine_177 (by decide) ?_
      exact r_iret dX11_personLine_178 rfl rfl rfl rfl
    · exact absurd c152 (by decide)
  · have hK : ∀ a k, ¬ ((a = 17 ∧ k = np) ∨ (a = 18 ∧ k = np) ∨ ((501 ≤ a ∧ a ≤ 503) ∧ k = np) ∨ (a = 500 ∧ k = 3)) → xu (xu (xu (xu (xu (xu K5 17 np (nI x4)) 18 np sd) 501 np x) 502 np sd) 503 np (nI x5)) 500 3 (nI (np + 1)) a k = K5 a k := fun a k z => ((xu_ne (by omega)).trans ((xu_ne (by omega)).trans ((xu_ne (by omega)).trans ((xu_ne (by omega)).trans ((xu_ne (by omega)).trans (xu_ne (by omega)))))))
    have hM : ∀ a k, ¬ ((a = 355 ∧ k = 6 + np) ∨ (a = 347 ∧ k = 16)) → xu (xu M5 355 (6 + np) (nI x5)) 347 16 (nI (np + 1)) a k = M5 a k := fun a k z => ((xu_ne (by omega)).trans (xu_ne (by omega)))
    have jf : jF (xu (xu (xu (xu (xu (xu K5 17 np (nI x4)) 18 np sd) 501 np x) 502 np sd) 503 np (nI x5)) 500 3 (nI (np + 1))) (xu (xu M5 355 (6 + np) (nI x5)) 347 16 (nI (np + 1))) := e3.c (fun a k z => hK a k (by omega)) (fun a k z => hM a k (by omega))
    have jb : jB (xu (xu (xu (xu (xu (xu K5 17 np (nI x4)) 18 np sd) 501 np x) 502 np sd) 503 np (nI x5)) 500 3 (nI (np + 1))) := hb5.c (fun a k z => hK a k (by omega))
    refine Qe.m1 ((hl5.x (by omega)).x (by omega)) jf jb ⟨i5, p5, np + 1, nd, nc, q, by omega, f4.c (fun a k z => hK a k (by omega)) (fun a k z => hM a k (by omega)), jf, ?_, ?_, ?_, ?_, ?_, jb⟩
    · refine ⟨by omega, xu_s _ _ _ _, xu_s _ _ _ _, fun j hj => ?_⟩
      by_cases ej : j = np
      · subst ej
        have w1 : ∀ z, xu (xu (xu (xu (xu (xu K5 17 j (nI x4)) 18 j sd) 501 j x) 502 j sd) 503 j (nI x5)) 500 3 z 501 j = x := fun z => ((xu_ne (by omega)).trans ((xu_ne (by omega)).trans ((xu_ne (by omega)).trans (xu_s _ _ _ _))))
        have w2 : ∀ z, xu (xu (xu (xu (xu (xu K5 17 j (nI x4)) 18 j sd) 501 j x) 502 j sd) 503 j (nI x5)) 500 3 z 502 j = sd := fun z => ((xu_ne (by omega)).trans ((xu_ne (by omega)).trans (xu_s _ _ _ _)))
        have w3 : ∀ z, xu (xu (xu (xu (xu (xu K5 17 j (nI x4)) 18 j sd) 501 j x) 502 j sd) 503 j (nI x5)) 500 3 z 503 j = nI x5 := fun z => ((xu_ne (by omega)).trans (xu_s _ _ _ _))
        have w4 : ∀ z, xu (xu (xu (xu (xu (xu K5 17 j (nI x4)) 18 j sd) 501 j x) 502 j sd) 503 j (nI x5)) 500 3 z 17 j = nI x4 := fun z => ((xu_ne (by omega)).trans ((xu_ne (by omega)).trans ((xu_ne (by omega)).trans ((xu_ne (by omega)).trans ((xu_ne (by omega)).trans (xu_s _ _ _ _))))))
        have w5 : ∀ z, xu (xu (xu (xu (xu (xu K5 17 j (nI x4)) 18 j sd) 501 j x) 502 j sd) 503 j (nI x5)) 500 3 z 18 j = sd := fun z => ((xu_ne (by omega)).trans ((xu_ne (by omega)).trans ((xu_ne (by omega)).trans ((xu_ne (by omega)).trans (xu_s _ _ _ _)))))
        rw [w1, w2, w3, w4, w5, hM 352 _ (by omega), hM 353 _ (by omega), hM 354 _ (by omega), y2, y3, y4]
        exact ⟨rfl, rfl, hsd, ((xu_ne (by omega)).trans (xu_s _ _ _ _)).symm, rfl, rfl⟩
      · have w := gp.2.2.2 j (by omega)
        rw [hK 501 j (by omega), hK 502 j (by omega), hK 503 j (by omega), hK 17 j (by omega), hK 18 j (by omega), fK 501 j (by omega), fK 502 j (by omega), fK 503 j (by omega), fK 17 j (by omega), fK 18 j (by omega), hM 352 _ (by omega), hM 353 _ (by omega), hM 354 _ (by omega), hM 355 _ (by omega), fM 352 _ (by omega), fM 353 _ (by omega), fM 354 _ (by omega), fM 355 _ (by omega)]
        exact w
    · exact (gd.up (Nat.le_succ np)).c (fun a k z => (hK a k (by omega)).trans (fK a k (by omega))) (fun a k z => (hM a k (by omega)).trans (fM a k (by omega)))
    · exact (gx.up (Nat.le_succ np)).c (fun a k z => (hK a k (by omega)).trans (fK a k (by omega))) (fun a k z => (hM a k (by omega)).trans (fM a k (by omega)))
    · exact go.c (fun a k z => (hK a k (by omega)).trans (fK a k (by omega))) (fun a k z => (hM a k (by omega)).trans (fM a k (by omega)))
    · exact gw.c (fun a k z => (hK a k (by omega)).trans (fK a k (by omega))) (fun a k z => (hM a k (by omega)).trans (fM a k (by omega)))
set_option maxHeartbeats 1000000 in
theorem isKey_r_t {M : Nat → Nat → Int32} {a : Int32} (h : M 347 8 = 1 ∧ M 347 9 = a) : rRun 1 yX11_isKey [.ref 347, .int a] M (some (.int 1)) M := by
  refine rAt.run (h := 0) cqX11_isKey (ls := [some (.ref 347), some (.int a)]) rfl (by simp [lg_sl, Value.category]) ?_
  intro E ex I J P n hn hP
  refine r_aload_n dX11_isKey_0 rfl ?_
  refine r_getIv dX11_isKey_1 flX11_211 sh_347 (by decide) rfl (uR_r (by decide) _) ?_
  refine r_iconst (v := 1) dX11_isKey_4 (by decide) ?_
  refine r_ic_ne 20 dX11_isKey_5 (by decide) (fun c5 => ?_) (fun c5 => ?_)
  · exact absurd h.1 c5
  · refine r_aload_n dX11_isKey_8 rfl ?_
    refine r_getIv dX11_isKey_9 flX11_222 sh_347 (by decide) rfl (uR_r (by decide) _) ?_
    refine r_iload_n dX11_isKey_12 rfl ?_
    refine r_ic_ne 20 dX11_isKey_13 (by decide) (fun c13 => ?_) (fun c13 => ?_)
    · exact absurd h.2 c13
    · refine r_iconst (v := 1) dX11_isKey_16 (by decide) ?_
      refine r_goto 21 dX11_isKey_17 (by decide) ?_
      exact r_iret dX11_isKey_21 rfl rfl rfl rfl
set_option maxHeartbeats 1000000 in
theorem isSign_r_t {M : Nat → Nat → Int32} {a : Int32} (h : M 347 8 = 4 ∧ M 347 9 = a) : rRun 1 yX11_isSign [.ref 347, .int a] M (some (.int 1)) M := by
  refine rAt.run (h := 0) cqX11_isSign (ls := [some (.ref 347), some (.int a)]) rfl (by simp [lg_sl, Value.category]) ?_
  intro E ex I J P n hn hP
  refine r_aload_n dX11_isSign_0 rfl ?_
  refine r_getIv dX11_isSign_1 flX11_211 sh_347 (by decide) rfl (uR_r (by decide) _) ?_
  refine r_iconst (v := 4) dX11_isSign_4 (by decide) ?_
  refine r_ic_ne 20 dX11_isSign_5 (by decide) (fun c5 => ?_) (fun c5 => ?_)
  · exact absurd h.1 c5
  · refine r_aload_n dX11_isSign_8 rfl ?_
    refine r_getIv dX11_isSign_9 flX11_222 sh_347 (by decide) rfl (uR_r (by decide) _) ?_
    refine r_iload_n dX11_isSign_12 rfl ?_
    refine r_ic_ne 20 dX11_isSign_13 (by decide) (fun c13 => ?_) (fun c13 => ?_)
    · exact absurd h.2 c13
    · refine r_iconst (v := 1) dX11_isSign_16 (by decide) ?_
      refine r_goto 21 dX11_isSign_17 (by decide) ?_
      exact r_iret dX11_isSign_21 rfl rfl rfl rfl
set_option maxHeartbeats 1000000 in
theorem isKey_r_f {M : Nat → Nat → Int32} {a : Int32} (h : ¬ (M 347 8 = 1 ∧ M 347 9 = a)) : rRun 1 yX11_isKey [.ref 347, .int a] M (some (.int 0)) M := by
  refine rAt.run (h := 0) cqX11_isKey (ls := [some (.ref 347), some (.int a)]) rfl (by simp [lg_sl, Value.category]) ?_
  intro E ex I J P n hn hP
  refine r_aload_n dX11_isKey_0 rfl ?_
  refine r_getIv dX11_isKey_1 flX11_211 sh_347 (by decide) rfl (uR_r (by decide) _) ?_
  refine r_iconst (v := 1) dX11_isKey_4 (by decide) ?_
  refine r_ic_ne 20 dX11_isKey_5 (by decide) (fun c5 => ?_) (fun c5 => ?_)
  · refine r_iconst (v := 0) dX11_isKey_20 (by decide) ?_
    exact r_iret dX11_isKey_21 rfl rfl rfl rfl
  · refine r_aload_n dX11_isKey_8 rfl ?_
    refine r_getIv dX11_isKey_9 flX11_222 sh_347 (by decide) rfl (uR_r (by decide) _) ?_
    refine r_iload_n dX11_isKey_12 rfl ?_
    refine r_ic_ne 20 dX11_isKey_13 (by decide) (fun c13 => ?_) (fun c13 => ?_)
    · refine r_iconst (v := 0) dX11_isKey_20 (by decide) ?_
      exact r_iret dX11_isKey_21 rfl rfl rfl rfl
    · exact absurd ⟨c5, c13⟩ h
set_option maxHeartbeats 1000000 in
theorem isSign_r_f {M : Nat → Nat → Int32} {a : Int32} (h : ¬ (M 347 8 = 4 ∧ M 347 9 = a)) : rRun 1 yX11_isSign [.ref 347, .int a] M (some (.int 0)) M := by
  refine rAt.run (h := 0) cqX11_isSign (ls := [some (.ref 347), some (.int a)]) rfl (by simp [lg_sl, Value.category]) ?_
  intro E ex I J P n hn hP
  refine r_aload_n dX11_isSign_0 rfl ?_
  refine r_getIv dX11_isSign_1 flX11_211 sh_347 (by decide) rfl (uR_r (by decide) _) ?_
  refine r_iconst (v := 4) dX11_isSign_4 (by decide) ?_
  refine r_ic_ne 20 dX11_isSign_5 (by decide) (fun c5 => ?_) (fun c5 => ?_)
  · refine r_iconst (v := 0) dX11_isSign_20 (by decide) ?_
    exact r_iret dX11_isSign_21 rfl rfl rfl rfl
  · refine r_aload_n dX11_isSign_8 rfl ?_
    refine r_getIv dX11_isSign_9 flX11_222 sh_347 (by decide) rfl (uR_r (by decide) _) ?_
    refine r_iload_n dX11_isSign_12 rfl ?_
    refine r_ic_ne 20 dX11_isSign_13 (by decide) (fun c13 => ?_) (fun c13 => ?_)
    · refine r_iconst (v := 0) dX11_isSign_20 (by decide) ?_
      exact r_iret dX11_isSign_21 rfl rfl rfl rfl
    · exact absurd ⟨c5, c13⟩ h
set_option maxHeartbeats 4000000 in
theorem pers_R {s i p np nd nc q ln : Nat} {K M : Nat → Nat → Int32} (h : Rl s i p np nd nc q ln K M) (hk0 : ¬ K 28 4 = 38) : ∃ r K' r' M', cRun false 5 yX7_personLine (fun _ => [.ref 2]) K r K' ∧ rRun 4 yX11_personLine [.ref 347] M r' M' ∧ Qe M (fun K' M' => ∃ i' p' np' nd' nc' q', p < p' ∧ Rl s i' p' np' nd' nc' q' ln K' M') r K' r' M' := by
  have h' := h
  obtain ⟨gt, gf, gp, gd, gx, go, gw, gb⟩ := h'
  have hpi : p < i := gt.2.2.2.1 hk0
  have n6 := gp.1
  refine JG.run (h := 4) (h2 := 3) cqX7_personLine cqX11_personLine (ls := [some (.ref 2), none, none, none]) (ls2 := [some (.ref 347), none]) rfl (by simp [lg_sl, Value.category]) rfl (by simp [lg_sl, Value.category]) ?_
  by_cases c0 : np = 6
  · refine JG.fin (r := some (.int 0)) (r' := some (.int 0)) ?_ ?_ (Qe.bad gt (LF.rf M) gb 2)
    · intro E ex t I J P n hn ht hE hq
      refine r_aload_n dX7_personLine_0 rfl ?_
      refine r_aload_n dX7_personLine_1 rfl ?_
      refine r_getR dX7_personLine_2 flX7_12 sh_2 (by decide) rfl hq.2.1 ?_
      refine r_getIv dX7_personLine_5 flX7_108 (tl_s _ ht) (by decide) rfl (uC_t0v gp.2.1) ?_
      refine r_bipush (v := 6) dX7_personLine_8 (by decide) ?_
      refine r_cV2i dX7_personLine_10 vlX7_111 sh_2 (Nat.le_of_ble_eq_true rfl) (opn_f (by rw [c0]; decide) E ex t I J P n (by omega) ht hE hq) ?_
      refine r_if_ne 18 dX7_personLine_13 (by decide) (fun c13 => ?_) (fun c13 => ?_)
      · exact absurd c13 (by decide)
      · refine r_iconst (v := 0) dX7_personLine_16 (by decide) ?_
        exact r_iret dX7_personLine_17 rfl rfl rfl rfl
    · intro E ex I J P n hn hP
      refine r_aload_n dX11_personLine_0 rfl ?_
      refine r_getIv dX11_personLine_1 flX11_255 sh_347 (by decide) rfl (uR_v (by decide) gp.2.2.1) ?_
      refine r_bipush (v := 6) dX11_personLine_4 (by decide) ?_
      refine r_ic_ne 15 dX11_personLine_6 (by decide) (fun c6 => ?_) (fun c6 => ?_)
      · exact absurd (by rw [c0]; decide) c6
      · refine r_aload_n dX11_personLine_9 rfl ?_
        refine r_iconst (v := 2) dX11_personLine_10 (by decide) ?_
        refine r_cV1i dX11_personLine_11 vlX11_235 sh_347 (Nat.le_of_ble_eq_true rfl) (wrong_r 2 E ex I J P n (by omega) hP) ?_
        exact r_iret dX11_personLine_14 rfl rfl rfl rfl
  obtain ⟨i1, p1, K1, M1, a1, a2, a3, a4, a5⟩ := adv_R gt
  apply JG.ca (pc2 := 18)
  · intro r K' hk E ex t I J P n hn ht hE hq
    refine r_aload_n dX7_personLine_0 rfl ?_
    refine r_aload_n dX7_personLine_1 rfl ?_
    refine r_getR dX7_personLine_2 flX7_12 sh_2 (by decide) rfl hq.2.1 ?_
    refine r_getIv dX7_personLine_5 flX7_108 (tl_s _ ht) (by decide) rfl (uC_t0v gp.2.1) ?_
    refine r_bipush (v := 6) dX7_personLine_8 (by decide) ?_
    refine r_cV2i dX7_personLine_10 vlX7_111 sh_2 (Nat.le_of_ble_eq_true rfl) (opn_t (nI_lt (a := np) (b := 6) (by omega) (by decide)) a4 E ex t I J P n (by omega) ht hE hq) ?_
    refine r_if_ne 18 dX7_personLine_13 (by decide) (fun c13 => ?_) (fun c13 => ?_)
    · exact hk E ex t I J P n hn ht hE hq
    · exact absurd c13 (by decide)
  apply JG.rb (pc2 := 19)
  · intro r K' hk E ex I J P n hn hP
    refine r_aload_n dX11_personLine_0 rfl ?_
    refine r_getIv dX11_personLine_1 flX11_255 sh_347 (by decide) rfl (uR_v (by decide) gp.2.2.1) ?_
    refine r_bipush (v := 6) dX11_personLine_4 (by decide) ?_
    refine r_ic_ne 15 dX11_personLine_6 (by decide) (fun c6 => ?_) (fun c6 => ?_)
    · refine r_aload_n dX11_personLine_15 rfl ?_
      refine r_cV0v dX11_personLine_16 vlX11_245 sh_347 (Nat.le_of_ble_eq_true rfl) (a5 E ex I J P n (by omega) hP) ?_
      exact hk E ex I J P n hn hP
    · exact absurd ((nI_eq (a := np) (b := 6) (by omega) (by decide)).mp c6) c0
  have hb1 : jB K1 := gb.c (fun a k z => a3.1 a k (by omega))
  have np1 : K1 500 3 = nI np := (a3.1 500 3 (by decide)).trans gp.2.1
  have np2 : M1 347 16 = nI np := (a3.2 347 16 (by decide)).trans gp.2.2.1
  rcases a2.tk.name with ⟨n1, n2, n3⟩ | ⟨n1, n2⟩
  case inr =>
    refine JG.fin (r := some (.int 0)) (r' := some (.int 0)) ?_ ?_ (Qe.bad a2 a3.lf hb1 1)
    · intro E ex t I J P n hn ht hE hq
      refine r_aload_n dX7_personLine_18 rfl ?_
      refine r_getR dX7_personLine_19 flX7_32 sh_2 (by decide) rfl (pf_2_0 hq.1) ?_
      refine r_getIv dX7_personLine_22 flX7_61 sh_28 (by decide) rfl (uC_c ht (by decide) _) ?_
      refine r_bipush (v := 37) dX7_personLine_25 (by decide) ?_
      refine r_ic_eq 36 dX7_personLine_27 (by decide) (fun c27 => ?_) (fun c27 => ?_)
      · exact absurd c27 n1
      · refine r_aload_n dX7_personLine_30 rfl ?_
        refine r_iconst (v := 1) dX7_personLine_31 (by decide) ?_
        refine r_cV1i dX7_personLine_32 vlX7_86 sh_2 (Nat.le_of_ble_eq_true rfl) (fail_c 1 E ex t I J P n (by omega) ht hE hq) ?_
        exact r_iret dX7_personLine_35 rfl rfl rfl rfl
    · intro E ex I J P n hn hP
      refine r_aload_n dX11_personLine_19 rfl ?_
      refine r_getIv dX11_personLine_20 flX11_211 sh_347 (by decide) rfl (uR_r (by decide) _) ?_
      refine r_iconst (v := 2) dX11_personLine_23 (by decide) ?_
      refine r_ic_eq 33 dX11_personLine_24 (by decide) (fun c24 => ?_) (fun c24 => ?_)
      · exact absurd c24 n2
      · refine r_aload_n dX11_personLine_27 rfl ?_
        refine r_iconst (v := 1) dX11_personLine_28 (by decide) ?_
        refine r_cV1i dX11_personLine_29 vlX11_235 sh_347 (Nat.le_of_ble_eq_true rfl) (wrong_r 1 E ex I J P n (by omega) hP) ?_
        exact r_iret dX11_personLine_32 rfl rfl rfl rfl
  have e := sPn_r (f := K1 501) (g := fun k => M1 352 (6 + k)) (x := K1 28 5) np 0 (fun k z1 z2 => ((a3.1 501 k (by omega)).trans (gp.2.2.2 k (by omega)).1).trans (a3.2 352 (6 + k) (by omega)).symm)
  rcases sPn_c (K1 501) (K1 28 5) np 0 with hx | ⟨j, b1, b2, hx⟩
  case inr =>
    refine JG.fin (r := some (.int 0)) (r' := some (.int 0)) ?_ ?_ (Qe.bad a2 a3.lf hb1 3)
    · intro E ex t I J P n hn ht hE hq
      refine r_aload_n dX7_personLine_18 rfl ?_
      refine r_getR dX7_personLine_19 flX7_32 sh_2 (by decide) rfl (pf_2_0 hq.1) ?_
      refine r_getIv dX7_personLine_22 flX7_61 sh_28 (by decide) rfl (uC_c ht (by decide) _) ?_
      refine r_bipush (v := 37) dX7_personLine_25 (by decide) ?_
      refine r_ic_eq 36 dX7_personLine_27 (by decide) (fun c27 => ?_) (fun c27 => ?_)
      · refine r_aload_n dX7_personLine_36 rfl ?_
        refine r_getR dX7_personLine_37 flX7_12 sh_2 (by decide) rfl hq.2.1 ?_
        refine r_aload_n dX7_personLine_40 rfl ?_
        refine r_getR dX7_personLine_41 flX7_32 sh_2 (by decide) rfl (pf_2_0 hq.1) ?_
        refine r_getIv dX7_personLine_44 flX7_102 sh_28 (by decide) rfl (uC_c ht (by decide) _) ?_
        refine r_cV1i dX7_personLine_47 vlX7_115 (tl_s _ ht) (Nat.le_of_ble_eq_true rfl) (pnm_c n6 np1 hx E ex t I J P n (by omega) ht hE hq) ?_
        refine r_iconst (v := (-1)) dX7_personLine_50 (by decide) ?_
        refine r_ic_eq 60 dX7_personLine_51 (by decide) (fun c51 => ?_) (fun c51 => ?_)
        · exact absurd c51 (nI_nm1 (by omega))
        · refine r_aload_n dX7_personLine_54 rfl ?_
          refine r_iconst (v := 3) dX7_personLine_55 (by decide) ?_
          refine r_cV1i dX7_personLine_56 vlX7_86 sh_2 (Nat.le_of_ble_eq_true rfl) (fail_c 3 E ex t I J P n (by omega) ht hE hq) ?_
          exact r_iret dX7_personLine_59 rfl rfl rfl rfl
      · exact absurd n1 c27
    · intro E ex I J P n hn hP
      refine r_aload_n dX11_personLine_19 rfl ?_
      refine r_getIv dX11_personLine_20 flX11_211 sh_347 (by decide) rfl (uR_r (by decide) _) ?_
      refine r_iconst (v := 2) dX11_personLine_23 (by decide) ?_
      refine r_ic_eq 33 dX11_personLine_24 (by decide) (fun c24 => ?_) (fun c24 => ?_)
      · refine r_aload_n dX11_personLine_33 rfl ?_
        refine r_getR dX11_personLine_34 flX11_27 sh_347 (by decide) rfl (pf_347_22 hP) ?_
        refine r_bipush (v := 6) dX11_personLine_37 (by decide) ?_
        refine r_aload_n dX11_personLine_39 rfl ?_
        refine r_getIv dX11_personLine_40 flX11_255 sh_347 (by decide) rfl (uR_v (by decide) np2) ?_
        refine r_aload_n dX11_personLine_43 rfl ?_
        refine r_getIv dX11_personLine_44 flX11_222 sh_347 (by decide) rfl (uR_r (by decide) _) ?_
        refine r_cS4i dX11_personLine_47 slX11_289 (Nat.le_of_ble_eq_true rfl) (find_r n6 (v := nI j) (by rw [← n3, ← e]; exact hx) E ex I J P n (by omega) hP) ?_
        refine r_if_lt 59 dX11_personLine_50 (by decide) (fun c50 => ?_) (fun c50 => ?_)
        · exact absurd c50 (nI_pos (by omega))
        · refine r_aload_n dX11_personLine_53 rfl ?_
          refine r_iconst (v := 3) dX11_personLine_54 (by decide) ?_
          refine r_cV1i dX11_personLine_55 vlX11_235 sh_347 (Nat.le_of_ble_eq_true rfl) (wrong_r 3 E ex I J P n (by omega) hP) ?_
          exact r_iret dX11_personLine_58 rfl rfl rfl rfl
      · exact absurd n2 c24
  have t2 : jT s i1 p1 K1 (xu M1 352 (6 + np) (M1 347 9)) := a2.c (fun a k z => rfl) (fun a k z => xu_ne (by omega))
  obtain ⟨i2, p2, K2, M2, b1, b2, b3, b4, b5⟩ := adv_R t2
  have o1 := a2.2.2.1
  have o2 := b2.2.2.1
  have hl2 : LF M M2 := (a3.lf.x (by omega)).tr b3.lf
  have hb2 : jB K2 := hb1.c (fun a k z => b3.1 a k (by omega))
  have eK : ∀ a k, ¬ a = 28 → K2 a k = K a k := fun a k z => (b3.1 a k z).trans (a3.1 a k z)
  have m2 : M2 352 (6 + np) = K1 28 5 := ((b3.2 _ _ (by omega)).trans (xu_s _ _ _ _)).trans n3.symm
  apply JG.ca (pc2 := 75)
  · intro r K' hk E ex t I J P n hn ht hE hq
    refine r_aload_n dX7_personLine_18 rfl ?_
    refine r_getR dX7_personLine_19 flX7_32 sh_2 (by decide) rfl (pf_2_0 hq.1) ?_
    refine r_getIv dX7_personLine_22 flX7_61 sh_28 (by decide) rfl (uC_c ht (by decide) _) ?_
    refine r_bipush (v := 37) dX7_personLine_25 (by decide) ?_
    refine r_ic_eq 36 dX7_personLine_27 (by decide) (fun c27 => ?_) (fun c27 => ?_)
    · refine r_aload_n dX7_personLine_36 rfl ?_
      refine r_getR dX7_personLine_37 flX7_12 sh_2 (by decide) rfl hq.2.1 ?_
      refine r_aload_n dX7_personLine_40 rfl ?_
      refine r_getR dX7_personLine_41 flX7_32 sh_2 (by decide) rfl (pf_2_0 hq.1) ?_
      refine r_getIv dX7_personLine_44 flX7_102 sh_28 (by decide) rfl (uC_c ht (by decide) _) ?_
      refine r_cV1i dX7_personLine_47 vlX7_115 (tl_s _ ht) (Nat.le_of_ble_eq_true rfl) (pnm_c n6 np1 hx E ex t I J P n (by omega) ht hE hq) ?_
      refine r_iconst (v := (-1)) dX7_personLine_50 (by decide) ?_
      refine r_ic_eq 60 dX7_personLine_51 (by decide) (fun c51 => ?_) (fun c51 => ?_)
      · refine r_aload_n dX7_personLine_60 rfl ?_
        refine r_getR dX7_personLine_61 flX7_32 sh_2 (by decide) rfl (pf_2_0 hq.1) ?_
        refine r_getIv dX7_personLine_64 flX7_102 sh_28 (by decide) rfl (uC_c ht (by decide) _) ?_
        refine r_istore_n1 dX7_personLine_67 rfl ?_
        refine r_aload_n dX7_personLine_68 rfl ?_
        refine r_getR dX7_personLine_69 flX7_32 sh_2 (by decide) rfl (pf_2_0 hq.1) ?_
        refine r_cV0v dX7_personLine_72 vlX7_99 sh_28 (Nat.le_of_ble_eq_true rfl) (b4 E ex t I J P n (by omega) ht hE hq) ?_
        exact hk E ex t I J P n hn ht hE hq
      · exact absurd rfl c51
    · exact absurd n1 c27
  apply JG.rb (pc2 := 81)
  · intro r K' hk E ex I J P n hn hP
    refine r_aload_n dX11_personLine_19 rfl ?_
    refine r_getIv dX11_personLine_20 flX11_211 sh_347 (by decide) rfl (uR_r (by decide) _) ?_
    refine r_iconst (v := 2) dX11_personLine_23 (by decide) ?_
    refine r_ic_eq 33 dX11_personLine_24 (by decide) (fun c24 => ?_) (fun c24 => ?_)
    · refine r_aload_n dX11_personLine_33 rfl ?_
      refine r_getR dX11_personLine_34 flX11_27 sh_347 (by decide) rfl (pf_347_22 hP) ?_
      refine r_bipush (v := 6) dX11_personLine_37 (by decide) ?_
      refine r_aload_n dX11_personLine_39 rfl ?_
      refine r_getIv dX11_personLine_40 flX11_255 sh_347 (by decide) rfl (uR_v (by decide) np2) ?_
      refine r_aload_n dX11_personLine_43 rfl ?_
      refine r_getIv dX11_personLine_44 flX11_222 sh_347 (by decide) rfl (uR_r (by decide) _) ?_
      refine r_cS4i dX11_personLine_47 slX11_289 (Nat.le_of_ble_eq_true rfl) (find_r n6 (v := -1) (by rw [← n3, ← e]; exact hx) E ex I J P n (by omega) hP) ?_
      refine r_if_lt 59 dX11_personLine_50 (by decide) (fun c50 => ?_) (fun c50 => ?_)
      · refine r_bipush (v := 6) dX11_personLine_59 (by decide) ?_
        refine r_aload_n dX11_personLine_61 rfl ?_
        refine r_getIv dX11_personLine_62 flX11_255 sh_347 (by decide) rfl (uR_v (by decide) np2) ?_
        refine r_iadd dX11_personLine_65 ?_
        rw [show (6 : Int32) + nI np = nI (6 + np) from nI_add 6 np]
        refine r_istore_n1 dX11_personLine_66 rfl ?_
        refine r_aload_n dX11_personLine_67 rfl ?_
        refine r_getR dX11_personLine_68 flX11_27 sh_347 (by decide) rfl (pf_347_22 hP) ?_
        refine r_iload_n dX11_personLine_71 rfl ?_
        refine r_aload_n dX11_personLine_72 rfl ?_
        refine r_getIv dX11_personLine_73 flX11_222 sh_347 (by decide) rfl (uR_r (by decide) _) ?_
        refine r_iasv dX11_personLine_76 sh_352 (vp_in_nI (n := 6 + np) (by omega) (by decide)) ((congrArg (fun z => xu _ _ z _) (nI_clamp (n := 6 + np) (by omega))).trans (uR_x (by decide) _ _)) ?_
        refine r_aload_n dX11_personLine_77 rfl ?_
        refine r_cV0v dX11_personLine_78 vlX11_245 sh_347 (Nat.le_of_ble_eq_true rfl) (b5 E ex I J P n (by omega) hP) ?_
        exact hk E ex I J P n hn hP
      · exact absurd (by decide) c50
    · exact absurd n2 c24
  rcases b2.tk.key (m := 7) (by decide) with ⟨k1, k2, k3⟩ | ⟨k1, k2⟩
  · apply JG.ca (pc2 := 123)
    · intro r K' hk E ex t I J P n hn ht hE hq
      refine r_aload_n dX7_personLine_75 rfl ?_
      refine r_getR dX7_personLine_76 flX7_32 sh_2 (by decide) rfl (pf_2_0 hq.1) ?_
      refine r_getIv dX7_personLine_79 flX7_61 sh_28 (by decide) rfl (uC_c ht (by decide) _) ?_
      refine r_bipush (v := 7) dX7_personLine_82 (by decide) ?_
      refine r_ic_eq 105 dX7_personLine_84 (by decide) (fun c84 => ?_) (fun c84 => ?_)
      · refine r_aload_n dX7_personLine_105 rfl ?_
        refine r_getR dX7_personLine_106 flX7_32 sh_2 (by decide) rfl (pf_2_0 hq.1) ?_
        refine r_getIv dX7_personLine_109 flX7_61 sh_28 (by decide) rfl (uC_c ht (by decide) _) ?_
        refine r_bipush (v := 7) dX7_personLine_112 (by decide) ?_
        refine r_ic_ne 121 dX7_personLine_114 (by decide) (fun c114 => ?_) (fun c114 => ?_)
        · exact absurd k1 c114
        · refine r_iconst (v := 0) dX7_personLine_117 (by decide) ?_
          refine r_goto 122 dX7_personLine_118 (by decide) ?_
          refine r_istore_n2 dX7_personLine_122 rfl ?_
          exact hk E ex t I J P n hn ht hE hq
      · exact absurd k1 c84
    apply JG.rb (pc2 := 118)
    · intro r K' hk E ex I J P n hn hP
      refine r_aload_n dX11_personLine_81 rfl ?_
      refine r_bipush (v := 7) dX11_personLine_82 (by decide) ?_
      refine r_cV1i dX11_personLine_84 vlX11_293 sh_347 (Nat.le_of_ble_eq_true rfl) (isKey_r_t ⟨k2, k3⟩ E ex I J P n (by omega) hP) ?_
      refine r_if_ne 105 dX11_personLine_87 (by decide) (fun c87 => ?_) (fun c87 => ?_)
      · refine r_aload_n dX11_personLine_105 rfl ?_
        refine r_getR dX11_personLine_106 flX11_30 sh_347 (by decide) rfl (pf_347_23 hP) ?_
        refine r_iload_n dX11_personLine_109 rfl ?_
        refine r_aload_n dX11_personLine_110 rfl ?_
        refine r_getIv dX11_personLine_111 flX11_222 sh_347 (by decide) rfl (uR_v (by decide) k3) ?_
        refine r_bipush (v := 7) dX11_personLine_114 (by decide) ?_
        refine r_isub dX11_personLine_116 ?_
        rw [show nI (kMap 7) - 7 = (0 : Int32) by decide]
        refine r_iasv dX11_personLine_117 sh_353 (vp_in_nI (n := 6 + np) (by omega) (by decide)) ((congrArg (fun z => xu _ _ z _) (nI_clamp (n := 6 + np) (by omega))).trans (uR_x (by decide) _ _)) ?_
        exact hk E ex I J P n hn hP
      · exact absurd c87 (by decide)
    exact pers_2 h (by omega) (p2 := p2) (by omega) (b2.c (fun a k z => rfl) (fun a k z => xu_ne (by omega))) eK (fun a k z => (xu_ne (by omega)).trans ((b3.2 a k (by omega)).trans ((xu_ne (by omega)).trans (a3.2 a k (by omega))))) ((xu_ne (by omega)).trans m2) (xu_s _ _ _ _) (by decide)
  rcases b2.tk.key (m := 8) (by decide) with ⟨k4, k5, k6⟩ | ⟨k4, k5⟩
  · apply JG.ca (pc2 := 123)
    · intro r K' hk E ex t I J P n hn ht hE hq
      refine r_aload_n dX7_personLine_75 rfl ?_
      refine r_getR dX7_personLine_76 flX7_32 sh_2 (by decide) rfl (pf_2_0 hq.1) ?_
      refine r_getIv dX7_personLine_79 flX7_61 sh_28 (by decide) rfl (uC_c ht (by decide) _) ?_
      refine r_bipush (v := 7) dX7_personLine_82 (by decide) ?_
      refine r_ic_eq 105 dX7_personLine_84 (by decide) (fun c84 => ?_) (fun c84 => ?_)
      · exact absurd c84 k1
      · refine r_aload_n dX7_personLine_87 rfl ?_
        refine r_getR dX7_personLine_88 flX7_32 sh_2 (by decide) rfl (pf_2_0 hq.1) ?_
        refine r_getIv dX7_personLine_91 flX7_61 sh_28 (by decide) rfl (uC_c ht (by decide) _) ?_
        refine r_bipush (v := 8) dX7_personLine_94 (by decide) ?_
        refine r_ic_eq 105 dX7_personLine_96 (by decide) (fun c96 => ?_) (fun c96 => ?_)
        · refine r_aload_n dX7_personLine_105 rfl ?_
          refine r_getR dX7_personLine_106 flX7_32 sh_2 (by decide) rfl (pf_2_0 hq.1) ?_
          refine r_getIv dX7_personLine_109 flX7_61 sh_28 (by decide) rfl (uC_c ht (by decide) _) ?_
          refine r_bipush (v := 7) dX7_personLine_112 (by decide) ?_
          refine r_ic_ne 121 dX7_personLine_114 (by decide) (fun c114 => ?_) (fun c114 => ?_)
          · refine r_iconst (v := 1) dX7_personLine_121 (by decide) ?_
            refine r_istore_n2 dX7_personLine_122 rfl ?_
            exact hk E ex t I J P n hn ht hE hq
          · exact absurd c114 k1
        · exact absurd k4 c96
    apply JG.rb (pc2 := 118)
    · intro r K' hk E ex I J P n hn hP
      refine r_aload_n dX11_personLine_81 rfl ?_
      refine r_bipush (v := 7) dX11_personLine_82 (by decide) ?_
      refine r_cV1i dX11_personLine_84 vlX11_293 sh_347 (Nat.le_of_ble_eq_true rfl) (isKey_r_f k2 E ex I J P n (by omega) hP) ?_
      refine r_if_ne 105 dX11_personLine_87 (by decide) (fun c87 => ?_) (fun c87 => ?_)
      · exact absurd c87 (by decide)
      · refine r_aload_n dX11_personLine_90 rfl ?_
        refine r_bipush (v := 8) dX11_personLine_91 (by decide) ?_
        refine r_cV1i dX11_personLine_93 vlX11_293 sh_347 (Nat.le_of_ble_eq_true rfl) (isKey_r_t ⟨k5, k6⟩ E ex I J P n (by omega) hP) ?_
        refine r_if_ne 105 dX11_personLine_96 (by decide) (fun c96 => ?_) (fun c96 => ?_)
        · refine r_aload_n dX11_personLine_105 rfl ?_
          refine r_getR dX11_personLine_106 flX11_30 sh_347 (by decide) rfl (pf_347_23 hP) ?_
          refine r_iload_n dX11_personLine_109 rfl ?_
          refine r_aload_n dX11_personLine_110 rfl ?_
          refine r_getIv dX11_personLine_111 flX11_222 sh_347 (by decide) rfl (uR_v (by decide) k6) ?_
          refine r_bipush (v := 7) dX11_personLine_114 (by decide) ?_
          refine r_isub dX11_personLine_116 ?_
          rw [show nI (kMap 8) - 7 = (1 : Int32) by decide]
          refine r_iasv dX11_personLine_117 sh_353 (vp_in_nI (n := 6 + np) (by omega) (by decide)) ((congrArg (fun z => xu _ _ z _) (nI_clamp (n := 6 + np) (by omega))).trans (uR_x (by decide) _ _)) ?_
          exact hk E ex I J P n hn hP
        · exact absurd c96 (by decide)
    exact pers_2 h (by omega) (p2 := p2) (by omega) (b2.c (fun a k z => rfl) (fun a k z => xu_ne (by omega))) eK (fun a k z => (xu_ne (by omega)).trans ((b3.2 a k (by omega)).trans ((xu_ne (by omega)).trans (a3.2 a k (by omega))))) ((xu_ne (by omega)).trans m2) (xu_s _ _ _ _) (by decide)
  refine JG.fin (r := some (.int 0)) (r' := some (.int 0)) ?_ ?_ (Qe.bad b2 hl2 hb2 1)
  · intro E ex t I J P n hn ht hE hq
    refine r_aload_n dX7_personLine_75 rfl ?_
    refine r_getR dX7_personLine_76 flX7_32 sh_2 (by decide) rfl (pf_2_0 hq.1) ?_
    refine r_getIv dX7_personLine_79 flX7_61 sh_28 (by decide) rfl (uC_c ht (by decide) _) ?_
    refine r_bipush (v := 7) dX7_personLine_82 (by decide) ?_
    refine r_ic_eq 105 dX7_personLine_84 (by decide) (fun c84 => ?_) (fun c84 => ?_)
    · exact absurd c84 k1
    · refine r_aload_n dX7_personLine_87 rfl ?_
      refine r_getR dX7_personLine_88 flX7_32 sh_2 (by decide) rfl (pf_2_0 hq.1) ?_
      refine r_getIv dX7_personLine_91 flX7_61 sh_28 (by decide) rfl (uC_c ht (by decide) _) ?_
      refine r_bipush (v := 8) dX7_personLine_94 (by decide) ?_
      refine r_ic_eq 105 dX7_personLine_96 (by decide) (fun c96 => ?_) (fun c96 => ?_)
      · exact absurd c96 k4
      · refine r_aload_n dX7_personLine_99 rfl ?_
        refine r_iconst (v := 1) dX7_personLine_100 (by decide) ?_
        refine r_cV1i dX7_personLine_101 vlX7_86 sh_2 (Nat.le_of_ble_eq_true rfl) (fail_c 1 E ex t I J P n (by omega) ht hE hq) ?_
        exact r_iret dX7_personLine_104 rfl rfl rfl rfl
  · intro E ex I J P n hn hP
    refine r_aload_n dX11_personLine_81 rfl ?_
    refine r_bipush (v := 7) dX11_personLine_82 (by decide) ?_
    refine r_cV1i dX11_personLine_84 vlX11_293 sh_347 (Nat.le_of_ble_eq_true rfl) (isKey_r_f k2 E ex I J P n (by omega) hP) ?_
    refine r_if_ne 105 dX11_personLine_87 (by decide) (fun c87 => ?_) (fun c87 => ?_)
    · exact absurd c87 (by decide)
    · refine r_aload_n dX11_personLine_90 rfl ?_
      refine r_bipush (v := 8) dX11_personLine_91 (by decide) ?_
      refine r_cV1i dX11_personLine_93 vlX11_293 sh_347 (Nat.le_of_ble_eq_true rfl) (isKey_r_f k5 E ex I J P n (by omega) hP) ?_
      refine r_if_ne 105 dX11_personLine_96 (by decide) (fun c96 => ?_) (fun c96 => ?_)
      · exact absurd c96 (by decide)
      · refine r_aload_n dX11_personLine_99 rfl ?_
        refine r_iconst (v := 1) dX11_personLine_100 (by decide) ?_
        refine r_cV1i dX11_personLine_101 vlX11_235 sh_347 (Nat.le_of_ble_eq_true rfl) (wrong_r 1 E ex I J P n (by omega) hP) ?_
        exact r_iret dX11_personLine_104 rfl rfl rfl rfl
