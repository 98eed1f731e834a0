/-! lines on both sides: any line -/
theorem p296 : ∀ q ∈ REFS, ¬ (q.1 = 29 ∧ q.2.1 = 6) := by decide +kernel
theorem Pok.x {P : Nat → Nat → Nat} (h : Pok P) (v : Nat) : Pok (xu P 29 6 v) := fun q hq => (xu_ne (p296 q hq)).trans (h q hq)
theorem Aq.t {b : Bool} {t : Nat} {P : Nat → Nat → Nat} (h : Aq b t P) : Aq true t (xu P 29 6 (t + 7 + 1)) := ⟨h.1.x _, (xu_ne (by omega)).trans h.2.1, fun _ => xu_s _ _ _ _⟩
theorem Aq.f {b : Bool} {t : Nat} {P : Nat → Nat → Nat} (h : Aq b t P) : Aq false t P := ⟨h.1, h.2.1, fun c => absurd c (by decide)⟩
def rIn (l : Nat) (K : Nat → Nat → Int32) (r : Option Value) (K' : Nat → Nat → Int32) : Prop := ∀ (E : xCl) (ex : Bool) (t : Nat) (I : Nat → Nat → Int32) (J : Nat → Nat → Int64) (P : Nat → Nat → Nat) (n : Nat), 5 ≤ n → t ∈ TL → EW E → Aq false t P → xEx E ex n yX1_readInto [.ref 29, .ref (t + 7), .int (nI l)] (SH, uC t K I, J, P) r (SH, uC t K' I, J, xu P 29 6 (t + 7 + 1))
def cRunP (h : Nat) (y : MethodName) (vs : Nat → List Value) (K : Nat → Nat → Int32) (r : Option Value) (K' : Nat → Nat → Int32) : Prop := ∀ (E : xCl) (ex : Bool) (t : Nat) (I : Nat → Nat → Int32) (J : Nat → Nat → Int64) (P : Nat → Nat → Nat) (n : Nat), h ≤ n → t ∈ TL → EW E → Aq false t P → ∃ P', (P' = P ∨ P' = xu P 29 6 (t + 7 + 1)) ∧ xEx E ex n y (vs t) (SH, uC t K I, J, P) r (SH, uC t K' I, J, P')
theorem cRun.p {h : Nat} {y : MethodName} {vs : Nat → List Value} {K K' : Nat → Nat → Int32} {r : Option Value} (z : cRun false h y vs K r K') : cRunP h y vs K r K' := fun E ex t I J P n hn ht hE hq => ⟨P, Or.inl rfl, z E ex t I J P n hn ht hE hq⟩
theorem TkR.law {kc v kr w : Int32} (h : TkR kc v kr w) : (∃ l, l < 3 ∧ kc = nI (9 + l) ∧ kr = 1 ∧ w = nI (10 + l)) ∨ ((kc < 9 ∨ 11 < kc) ∧ (¬ kr = 1 ∨ w < 10 ∨ 12 < w)) := by
  rcases h with ⟨h1, h2⟩ | ⟨m, hm, h1, h2, h3⟩ | ⟨h1, h2, h3⟩ | ⟨h1, h2, h3⟩ | ⟨h1, h2⟩ | ⟨q, hq, h1, h2, h3⟩ | ⟨h1, h2⟩
  · rw [h1, h2]; exact Or.inr ⟨by decide, Or.inl (by decide)⟩
  · by_cases e : 9 ≤ m ∧ m < 12
    · refine Or.inl ⟨m - 9, by omega, ?_, h2, ?_⟩
      · rw [h1, show 9 + (m - 9) = m by omega]
      · rw [h3, show kMap m = 10 + (m - 9) by unfold kMap; rw [if_neg (by omega), if_pos (by omega)]; omega]
    · have y : ∀ m, m < 23 → ¬ (9 ≤ m ∧ m < 12) → ((nI m < 9 ∨ 11 < nI m) ∧ (nI (kMap m) < 10 ∨ 12 < nI (kMap m))) := by decide +kernel
      have y := y m hm e
      rw [h1, h2, h3]
      exact Or.inr ⟨y.1, Or.inr y.2⟩
  · rw [h1, h2]; exact Or.inr ⟨by decide, Or.inl (by decide)⟩
  · rw [h1, h2]; exact Or.inr ⟨by decide, Or.inl (by decide)⟩
  · refine Or.inr ?_
    rcases h2 with h2 | h2 | h2 | h2 | h2 | h2 | h2 <;> (rw [h1, h2.2]; exact ⟨by decide, Or.inl (by decide)⟩)
  · rw [h1, h3]
    have y : ∀ m, m < 6 → (11 < nI (23 + m)) := by decide +kernel
    exact Or.inr ⟨Or.inr (y q hq), Or.inl (by decide)⟩
  · rcases h2 with h2 | ⟨h2, h3⟩ <;> (rw [h1, h2]; exact Or.inr ⟨by decide, Or.inl (by decide)⟩)
theorem TkR.line {kc v kr w : Int32} (h : TkR kc v kr w) : (∃ m, m < 7 ∧ kc = nI m ∧ kr = 1 ∧ w = nI m) ∨ ((kc.toInt < 0 ∨ 6 < kc.toInt) ∧ (¬ kr = 1 ∨ ¬ w ≤ 6)) := by
  rcases h with ⟨h1, h2⟩ | ⟨m, hm, h1, h2, h3⟩ | ⟨h1, h2, h3⟩ | ⟨h1, h2, h3⟩ | ⟨h1, h2⟩ | ⟨q, hq, h1, h2, h3⟩ | ⟨h1, h2⟩
  · rw [h1, h2]; exact Or.inr ⟨by decide, Or.inl (by decide)⟩
  · by_cases e : m < 7
    · exact Or.inl ⟨m, e, h1, h2, by rw [h3, kMap, if_pos (by omega)]⟩
    · have y : ∀ m, m < 23 → ¬ m < 7 → (6 < (nI m).toInt ∧ ¬ nI (kMap m) ≤ 6) := by decide +kernel
      have y := y m hm e
      rw [h1, h2, h3]
      exact Or.inr ⟨Or.inr y.1, Or.inr y.2⟩
  · rw [h1, h2]; exact Or.inr ⟨by decide, Or.inl (by decide)⟩
  · rw [h1, h2]; exact Or.inr ⟨by decide, Or.inl (by decide)⟩
  · refine Or.inr ?_
    rcases h2 with h2 | h2 | h2 | h2 | h2 | h2 | h2 <;> (rw [h1, h2.2]; exact ⟨by decide, Or.inl (by decide)⟩)
  · rw [h1, h3]
    have y : ∀ m, m < 6 → (6 < (nI (23 + m)).toInt) := by decide +kernel
    exact Or.inr ⟨Or.inr (y q hq), Or.inl (by decide)⟩
  · rcases h2 with h2 | ⟨h2, h3⟩ <;> (rw [h1, h2]; exact Or.inr ⟨by decide, Or.inl (by decide)⟩)
set_option maxHeartbeats 2000000 in
theorem read_R {s i p q l : Nat} (hl : l < 3) {K M : Nat → Nat → Int32} (gt : jT s i p K M) (hq64 : q ≤ 64) (k6 : K 507 6 = nI q) (k5 : K 507 5 = nI q) (m19 : M 347 19 = nI q) (m47 : M 347 47 = nI q) : ∃ r K' r' M', rIn l K r K' ∧ rRun 5 yX11_sumRead [.ref 347] M r' M' ∧ Qz q q l s p K M r K' r' M' := by
  have hK : ∀ a k, ¬ (a = 29 ∧ 2 ≤ k ∧ k ≤ 5) → (xu (xu (xu (xu K 29 2 0) 29 3 0) 29 4 1) 29 5 1) a k = K a k := fun a k z => ((xu_ne (by omega)).trans ((xu_ne (by omega)).trans ((xu_ne (by omega)).trans (xu_ne (by omega)))))
  have hM : ∀ a k, ¬ (a = 347 ∧ (k = 44 ∨ k = 45 ∨ k = 46 ∨ k = 48 ∨ k = 49)) → (xu (xu (xu (xu (xu M 347 44 0) 347 45 0) 347 46 0) 347 48 1) 347 49 1) a k = M a k := fun a k z => ((xu_ne (by omega)).trans ((xu_ne (by omega)).trans ((xu_ne (by omega)).trans ((xu_ne (by omega)).trans (xu_ne (by omega))))))
  have gt0 : jT s i p (xu (xu (xu (xu K 29 2 0) 29 3 0) 29 4 1) 29 5 1) (xu (xu (xu (xu (xu M 347 44 0) 347 45 0) 347 46 0) 347 48 1) 347 49 1) := gt.c (fun a k z => hK a k (by omega)) (fun a k z => hM a k (by omega))
  have z : jR q q q 0 0 0 [] 1 (xu (xu (xu (xu K 29 2 0) 29 3 0) 29 4 1) 29 5 1) (xu (xu (xu (xu (xu M 347 44 0) 347 45 0) 347 46 0) 347 48 1) 347 49 1) := ⟨hq64, hq64, by omega, by omega, ⟨0, ⟨rfl, rfl⟩, by simp⟩, ((xu_ne (by omega)).trans ((xu_ne (by omega)).trans ((xu_ne (by omega)).trans (xu_s _ _ _ _)))), ((xu_ne (by omega)).trans ((xu_ne (by omega)).trans ((xu_ne (by omega)).trans ((xu_ne (by omega)).trans (xu_s _ _ _ _))))), ((xu_ne (by omega)).trans ((xu_ne (by omega)).trans (xu_s _ _ _ _))), ((xu_ne (by omega)).trans ((xu_ne (by omega)).trans (xu_s _ _ _ _))), ((xu_ne (by omega)).trans (xu_s _ _ _ _)), ((xu_ne (by omega)).trans (xu_s _ _ _ _)), (xu_s _ _ _ _).trans (xu_s _ _ _ _).symm, (hK _ _ (by omega)).trans k6, (hM _ _ (by omega)).trans m19, (hK _ _ (by omega)).trans k5, (hM _ _ (by omega)).trans m47, ((xu_ne (by omega)).trans ((xu_ne (by omega)).trans ((xu_ne (by omega)).trans (xu_s _ _ _ _)))), Nat.le_refl _, rfl, by rw [Nat.sub_self]; rfl, fun j hj => absurd hj (Nat.not_lt_zero _)⟩
  have hi := gt.2.1
  have hp := gt.2.2.1
  obtain ⟨r, K', r', M', g1, g2, g3⟩ := lp_J (s0 := q) (s := s) hl (s + 1) _ _ q q 0 0 0 [] 1 i p 0 (by omega) z (Or.inr rfl) gt0 (by omega)
  refine ⟨r, K', r', M', ?_, ?_, ?_⟩
  · intro E ex t I J P n hn ht hE hq
    obtain ⟨d, rfl⟩ : ∃ d, n = d + 1 := ⟨n - 1, by omega⟩
    refine x_enter cqX1_readInto [some (.ref 29), some (.ref (t + 7)), some (.int (nI l)), none, none, none] rfl (by simp [lg_sl, Value.category]) ?_
    refine r_aload_n dX1_readInto_0 rfl ?_
    refine r_aload_n dX1_readInto_1 rfl ?_
    refine r_putR dX1_readInto_2 flX1_19 ⟨_, _, _, rfl, Or.inl rfl⟩ sh_29 (by decide) rfl rfl ?_
    have hq := hq.t
    refine r_aload_n dX1_readInto_5 rfl ?_
    refine r_iconst (v := 0) dX1_readInto_6 (by decide) ?_
    refine r_putIv dX1_readInto_7 flX1_23 ⟨_, _, _, rfl, Or.inl rfl⟩ sh_29 (by decide) rfl rfl rfl (uC_xc ht (by decide) _ _) ?_
    refine r_aload_n dX1_readInto_10 rfl ?_
    refine r_iconst (v := 0) dX1_readInto_11 (by decide) ?_
    refine r_putIv dX1_readInto_12 flX1_27 ⟨_, _, _, rfl, Or.inl rfl⟩ sh_29 (by decide) rfl rfl rfl (uC_xc ht (by decide) _ _) ?_
    refine r_aload_n dX1_readInto_15 rfl ?_
    refine r_iconst (v := 1) dX1_readInto_16 (by decide) ?_
    refine r_putIv dX1_readInto_17 flX1_30 ⟨_, _, _, rfl, Or.inl rfl⟩ sh_29 (by decide) rfl rfl rfl (uC_xc ht (by decide) _ _) ?_
    refine r_aload_n dX1_readInto_20 rfl ?_
    refine r_iconst (v := 1) dX1_readInto_21 (by decide) ?_
    refine r_putIv dX1_readInto_22 flX1_34 ⟨_, _, _, rfl, Or.inl rfl⟩ sh_29 (by decide) rfl rfl rfl (uC_xc ht (by decide) _ _) ?_
    refine r_aload_n dX1_readInto_25 rfl ?_
    refine r_getR dX1_readInto_26 flX1_19 sh_29 (by decide) rfl (hq.2.2 rfl) ?_
    refine r_getIv dX1_readInto_29 flX1_37 (tl_w _ ht) (by decide) rfl ((uC_tb (b := 507) (by decide) (by decide) _).trans ((xu_ne (by omega)).trans ((xu_ne (by omega)).trans ((xu_ne (by omega)).trans ((xu_ne (by omega)).trans k6))))) ?_
    refine r_istore_n3 dX1_readInto_32 rfl ?_
    refine r_iconst (v := 0) dX1_readInto_33 (by decide) ?_
    refine r_istore4 dX1_readInto_34 rfl ?_
    refine r_iconst (v := 0) dX1_readInto_36 (by decide) ?_
    refine r_istore5 dX1_readInto_37 rfl ?_
    exact g1 E ex t I J _ d (by omega) ht hE hq
  · refine rAt.run (h := 4) cqX11_sumRead (ls := [some (.ref 347)]) rfl (by simp [lg_sl, Value.category]) ?_
    intro E ex I J P n hn hP
    refine r_aload_n dX11_sumRead_0 rfl ?_
    refine r_iconst (v := 0) dX11_sumRead_1 (by decide) ?_
    refine r_putIv dX11_sumRead_2 flX11_327 ⟨_, _, _, rfl, Or.inl rfl⟩ sh_347 (by decide) rfl rfl rfl (uR_x (by decide) _ _) ?_
    refine r_aload_n dX11_sumRead_5 rfl ?_
    refine r_iconst (v := 0) dX11_sumRead_6 (by decide) ?_
    refine r_putIv dX11_sumRead_7 flX11_324 ⟨_, _, _, rfl, Or.inl rfl⟩ sh_347 (by decide) rfl rfl rfl (uR_x (by decide) _ _) ?_
    refine r_aload_n dX11_sumRead_10 rfl ?_
    refine r_iconst (v := 0) dX11_sumRead_11 (by decide) ?_
    refine r_putIv dX11_sumRead_12 flX11_342 ⟨_, _, _, rfl, Or.inl rfl⟩ sh_347 (by decide) rfl rfl rfl (uR_x (by decide) _ _) ?_
    refine r_aload_n dX11_sumRead_15 rfl ?_
    refine r_iconst (v := 1) dX11_sumRead_16 (by decide) ?_
    refine r_putIv dX11_sumRead_17 flX11_359 ⟨_, _, _, rfl, Or.inl rfl⟩ sh_347 (by decide) rfl rfl rfl (uR_x (by decide) _ _) ?_
    refine r_aload_n dX11_sumRead_20 rfl ?_
    refine r_iconst (v := 1) dX11_sumRead_21 (by decide) ?_
    refine r_putIv dX11_sumRead_22 flX11_349 ⟨_, _, _, rfl, Or.inl rfl⟩ sh_347 (by decide) rfl rfl rfl (uR_x (by decide) _ _) ?_
    exact g2 E ex I J P n hn hP
  · refine ⟨⟨fun a k y => (g3.1.1 a k y).trans (hK a k (by omega)), fun a k y => (g3.1.2 a k y).trans (hM a k (by omega))⟩, ?_⟩
    rcases g3.2 with z2 | ⟨w1, w2, i', p', q', x, y1, y2, y3, y4, y5, y6, y7, y8, y9, y10, y11, y12, y13, y14, y15⟩
    · exact Or.inl z2
    · exact Or.inr ⟨w1, w2, i', p', q', x, y1, y2, y3, y4, y5, y6, y7, y8, y9, y10, y11, y12, y13, y14.trans (hM _ _ (by omega)), y15.trans (hM _ _ (by omega))⟩
set_option maxHeartbeats 1000000 in
theorem law_1 {K : Nat → Nat → Int32} {K1 : Nat → Nat → Int32} (z : cRun false 3 yX8_advance (fun _ => [.ref 28]) K none K1) (h : K1 28 4 < 9 ∨ 11 < K1 28 4) : cRun false 4 yX7_lawLine (fun _ => [.ref 2]) K (some (.int 0)) (fC K1 1) := by
  refine cAt.run (h := 3) cqX7_lawLine (ls := [some (.ref 2), none, none]) rfl (by simp [lg_sl, Value.category]) ?_
  intro E ex t I J P n hn ht hE hq
  refine r_aload_n dX7_lawLine_0 rfl ?_
  refine r_getR dX7_lawLine_1 flX7_32 sh_2 (by decide) rfl (pf_2_0 hq.1) ?_
  refine r_cV0v dX7_lawLine_4 vlX7_99 sh_28 (Nat.le_of_ble_eq_true rfl) (z E ex t I J P n (by omega) ht hE hq) ?_
  refine r_aload_n dX7_lawLine_7 rfl ?_
  refine r_getR dX7_lawLine_8 flX7_32 sh_2 (by decide) rfl (pf_2_0 hq.1) ?_
  refine r_getIv dX7_lawLine_11 flX7_61 sh_28 (by decide) rfl (uC_c ht (by decide) _) ?_
  refine r_bipush (v := 9) dX7_lawLine_14 (by decide) ?_
  refine r_ic_lt 31 dX7_lawLine_16 (by decide) (fun c16 => ?_) (fun c16 => ?_)
  · refine r_aload_n dX7_lawLine_31 rfl ?_
    refine r_iconst (v := 1) dX7_lawLine_32 (by decide) ?_
    refine r_cV1i dX7_lawLine_33 vlX7_86 sh_2 (Nat.le_of_ble_eq_true rfl) (fail_c 1 E ex t I J P n (by omega) ht hE hq) ?_
    exact r_iret dX7_lawLine_36 rfl rfl rfl rfl
  · refine r_aload_n dX7_lawLine_19 rfl ?_
    refine r_getR dX7_lawLine_20 flX7_32 sh_2 (by decide) rfl (pf_2_0 hq.1) ?_
    refine r_getIv dX7_lawLine_23 flX7_61 sh_28 (by decide) rfl (uC_c ht (by decide) _) ?_
    refine r_bipush (v := 11) dX7_lawLine_26 (by decide) ?_
    refine r_ic_le 37 dX7_lawLine_28 (by decide) (fun c28 => ?_) (fun c28 => ?_)
    · exact absurd (h.resolve_left c16) (Int32.not_lt.mpr c28)
    · refine r_aload_n dX7_lawLine_31 rfl ?_
      refine r_iconst (v := 1) dX7_lawLine_32 (by decide) ?_
      refine r_cV1i dX7_lawLine_33 vlX7_86 sh_2 (Nat.le_of_ble_eq_true rfl) (fail_c 1 E ex t I J P n (by omega) ht hE hq) ?_
      exact r_iret dX7_lawLine_36 rfl rfl rfl rfl
theorem lw9 : ∀ l, l < 3 → ¬ nI (9 + l) < 9 ∧ nI (9 + l) ≤ 11 := by decide +kernel
theorem h9 : ∀ l, l < 3 → nI (9 + l) - 9 = nI l := by decide +kernel
theorem h10 : ∀ l, l < 3 → 3 + nI (10 + l) - 10 = nI (3 + l) ∧ ¬ nI (10 + l) < 10 ∧ nI (10 + l) ≤ 12 := by decide +kernel
set_option maxHeartbeats 1000000 in
theorem law_3 {K : Nat → Nat → Int32} {K1 : Nat → Nat → Int32} {l : Nat} (hl : l < 3) (z : cRun false 3 yX8_advance (fun _ => [.ref 28]) K none K1) (h : K1 28 4 = nI (9 + l)) (h2 : ¬ K1 509 l = -1) : cRun false 4 yX7_lawLine (fun _ => [.ref 2]) K (some (.int 0)) (fC K1 3) := by
  refine cAt.run (h := 3) cqX7_lawLine (ls := [some (.ref 2), none, none]) rfl (by simp [lg_sl, Value.category]) ?_
  intro E ex t I J P n hn ht hE hq
  refine r_aload_n dX7_lawLine_0 rfl ?_
  refine r_getR dX7_lawLine_1 flX7_32 sh_2 (by decide) rfl (pf_2_0 hq.1) ?_
  refine r_cV0v dX7_lawLine_4 vlX7_99 sh_28 (Nat.le_of_ble_eq_true rfl) (z E ex t I J P n (by omega) ht hE hq) ?_
  refine r_aload_n dX7_lawLine_7 rfl ?_
  refine r_getR dX7_lawLine_8 flX7_32 sh_2 (by decide) rfl (pf_2_0 hq.1) ?_
  refine r_getIv dX7_lawLine_11 flX7_61 sh_28 (by decide) rfl (uC_c ht (by decide) _) ?_
  refine r_bipush (v := 9) dX7_lawLine_14 (by decide) ?_
  refine r_ic_lt 31 dX7_lawLine_16 (by decide) (fun c16 => ?_) (fun c16 => ?_)
  · exact absurd c16 (by rw [h]; exact (lw9 l hl).1)
  · refine r_aload_n dX7_lawLine_19 rfl ?_
    refine r_getR dX7_lawLine_20 flX7_32 sh_2 (by decide) rfl (pf_2_0 hq.1) ?_
    refine r_getIv dX7_lawLine_23 flX7_61 sh_28 (by decide) rfl (uC_c ht (by decide) _) ?_
    refine r_bipush (v := 11) dX7_lawLine_26 (by decide) ?_
    refine r_ic_le 37 dX7_lawLine_28 (by decide) (fun c28 => ?_) (fun c28 => ?_)
    · refine r_aload_n dX7_lawLine_37 rfl ?_
      refine r_getR dX7_lawLine_38 flX7_32 sh_2 (by decide) rfl (pf_2_0 hq.1) ?_
      refine r_getIv dX7_lawLine_41 flX7_61 sh_28 (by decide) rfl (uC_cv ht (by decide) h) ?_
      refine r_bipush (v := 9) dX7_lawLine_44 (by decide) ?_
      refine r_isub dX7_lawLine_46 ?_
      rw [h9 l hl]
      refine r_istore_n1 dX7_lawLine_47 rfl ?_
      refine r_aload_n dX7_lawLine_48 rfl ?_
      refine r_getR dX7_lawLine_49 flX7_12 sh_2 (by decide) rfl hq.2.1 ?_
      refine r_getR dX7_lawLine_52 flX7_180 (tl_s _ ht) (by decide) rfl (tl_p8 hq.1 _ ht) ?_
      refine r_getR dX7_lawLine_55 flX7_184 (tl_w _ ht) (by decide) rfl (tw_p1 hq.1 _ ht) ?_
      refine r_iload_n dX7_lawLine_58 rfl ?_
      refine r_ialv dX7_lawLine_59 (tw_a1 _ ht) (vp_in_nI (n := l) (by omega) (by decide)) ((uC_tb (b := 509) (by decide) (by decide) _).trans (congrArg (K1 509) (nI_clamp (n := l) (by omega)))) ?_
      refine r_iconst (v := (-1)) dX7_lawLine_60 (by decide) ?_
      refine r_ic_eq 70 dX7_lawLine_61 (by decide) (fun c61 => ?_) (fun c61 => ?_)
      · exact absurd c61 h2
      · refine r_aload_n dX7_lawLine_64 rfl ?_
        refine r_iconst (v := 3) dX7_lawLine_65 (by decide) ?_
        refine r_cV1i dX7_lawLine_66 vlX7_86 sh_2 (Nat.le_of_ble_eq_true rfl) (fail_c 3 E ex t I J P n (by omega) ht hE hq) ?_
        exact r_iret dX7_lawLine_69 rfl rfl rfl rfl
    · exact absurd (by rw [h]; exact (lw9 l hl).2) c28
set_option maxHeartbeats 2000000 in
theorem law_t {K K1 K2 K3 : Nat → Nat → Int32} {l : Nat} {f : Int32} (hl : l < 3) (z : cRun false 3 yX8_advance (fun _ => [.ref 28]) K none K1) (h : K1 28 4 = nI (9 + l)) (h2 : K1 509 l = -1) (z2 : cRun false 3 yX8_advance (fun _ => [.ref 28]) K1 none K2) (z3 : rIn l K2 (some (.int 0)) K3) : cRunP 6 yX7_lawLine (fun _ => [.ref 2]) K (some (.int 1)) K3 := by
  intro E ex t I J P n hn ht hE hq
  refine ⟨_, Or.inr rfl, ?_⟩
  obtain ⟨d, rfl⟩ : ∃ d, n = d + 1 := ⟨n - 1, by omega⟩
  refine x_enter cqX7_lawLine [some (.ref 2), none, none] rfl (by simp [lg_sl, Value.category]) ?_
  refine r_aload_n dX7_lawLine_0 rfl ?_
  refine r_getR dX7_lawLine_1 flX7_32 sh_2 (by decide) rfl (pf_2_0 hq.1) ?_
  refine r_cV0v dX7_lawLine_4 vlX7_99 sh_28 (Nat.le_of_ble_eq_true rfl) (z E ex t I J P d (by omega) ht hE hq) ?_
  refine r_aload_n dX7_lawLine_7 rfl ?_
  refine r_getR dX7_lawLine_8 flX7_32 sh_2 (by decide) rfl (pf_2_0 hq.1) ?_
  refine r_getIv dX7_lawLine_11 flX7_61 sh_28 (by decide) rfl (uC_c ht (by decide) _) ?_
  refine r_bipush (v := 9) dX7_lawLine_14 (by decide) ?_
  refine r_ic_lt 31 dX7_lawLine_16 (by decide) (fun c16 => ?_) (fun c16 => ?_)
  · exact absurd c16 (by rw [h]; exact (lw9 l hl).1)
  · refine r_aload_n dX7_lawLine_19 rfl ?_
    refine r_getR dX7_lawLine_20 flX7_32 sh_2 (by decide) rfl (pf_2_0 hq.1) ?_
    refine r_getIv dX7_lawLine_23 flX7_61 sh_28 (by decide) rfl (uC_c ht (by decide) _) ?_
    refine r_bipush (v := 11) dX7_lawLine_26 (by decide) ?_
    refine r_ic_le 37 dX7_lawLine_28 (by decide) (fun c28 => ?_) (fun c28 => ?_)
    · refine r_aload_n dX7_lawLine_37 rfl ?_
      refine r_getR dX7_lawLine_38 flX7_32 sh_2 (by decide) rfl (pf_2_0 hq.1) ?_
      refine r_getIv dX7_lawLine_41 flX7_61 sh_28 (by decide) rfl (uC_cv ht (by decide) h) ?_
      refine r_bipush (v := 9) dX7_lawLine_44 (by decide) ?_
      refine r_isub dX7_lawLine_46 ?_
      rw [h9 l hl]
      refine r_istore_n1 dX7_lawLine_47 rfl ?_
      refine r_aload_n dX7_lawLine_48 rfl ?_
      refine r_getR dX7_lawLine_49 flX7_12 sh_2 (by decide) rfl hq.2.1 ?_
      refine r_getR dX7_lawLine_52 flX7_180 (tl_s _ ht) (by decide) rfl (tl_p8 hq.1 _ ht) ?_
      refine r_getR dX7_lawLine_55 flX7_184 (tl_w _ ht) (by decide) rfl (tw_p1 hq.1 _ ht) ?_
      refine r_iload_n dX7_lawLine_58 rfl ?_
      refine r_ialv dX7_lawLine_59 (tw_a1 _ ht) (vp_in_nI (n := l) (by omega) (by decide)) ((uC_tb (b := 509) (by decide) (by decide) _).trans (congrArg (K1 509) (nI_clamp (n := l) (by omega)))) ?_
      refine r_iconst (v := (-1)) dX7_lawLine_60 (by decide) ?_
      refine r_ic_eq 70 dX7_lawLine_61 (by decide) (fun c61 => ?_) (fun c61 => ?_)
      · refine r_aload_n dX7_lawLine_70 rfl ?_
        refine r_getR dX7_lawLine_71 flX7_32 sh_2 (by decide) rfl (pf_2_0 hq.1) ?_
        refine r_cV0v dX7_lawLine_74 vlX7_99 sh_28 (Nat.le_of_ble_eq_true rfl) (z2 E ex t I J P d (by omega) ht hE hq) ?_
        refine r_aload_n dX7_lawLine_77 rfl ?_
        refine r_getR dX7_lawLine_78 flX7_41 sh_2 (by decide) rfl (pf_2_1 hq.1) ?_
        refine r_aload_n dX7_lawLine_81 rfl ?_
        refine r_getR dX7_lawLine_82 flX7_12 sh_2 (by decide) rfl hq.2.1 ?_
        refine r_getR dX7_lawLine_85 flX7_180 (tl_s _ ht) (by decide) rfl (tl_p8 hq.1 _ ht) ?_
        refine r_iload_n dX7_lawLine_88 rfl ?_
        refine r_cV2i dX7_lawLine_89 vlX7_189 sh_29 (Nat.le_of_ble_eq_true rfl) (z3 E ex t I J P d (by omega) ht hE hq) ?_
        have hq := hq.t.f
        refine r_istore_n2 dX7_lawLine_92 rfl ?_
        refine r_iload_n dX7_lawLine_93 rfl ?_
        refine r_if_eq 105 dX7_lawLine_94 (by decide) (fun c94 => ?_) (fun c94 => ?_)
        · refine r_iconst (v := 1) dX7_lawLine_105 (by decide) ?_
          refine r_goto 110 dX7_lawLine_106 (by decide) ?_
          exact r_iret dX7_lawLine_110 rfl rfl rfl rfl
        · exact absurd rfl c94
      · exact absurd h2 c61
    · exact absurd (by rw [h]; exact (lw9 l hl).2) c28
set_option maxHeartbeats 2000000 in
theorem law_f {K K1 K2 K3 : Nat → Nat → Int32} {l : Nat} {f : Int32} (hl : l < 3) (hf : ¬ f = 0) (z : cRun false 3 yX8_advance (fun _ => [.ref 28]) K none K1) (h : K1 28 4 = nI (9 + l)) (h2 : K1 509 l = -1) (z2 : cRun false 3 yX8_advance (fun _ => [.ref 28]) K1 none K2) (z3 : rIn l K2 (some (.int f)) K3) : cRunP 6 yX7_lawLine (fun _ => [.ref 2]) K (some (.int 0)) (fC K3 f) := by
  intro E ex t I J P n hn ht hE hq
  refine ⟨_, Or.inr rfl, ?_⟩
  obtain ⟨d, rfl⟩ : ∃ d, n = d + 1 := ⟨n - 1, by omega⟩
  refine x_enter cqX7_lawLine [some (.ref 2), none, none] rfl (by simp [lg_sl, Value.category]) ?_
  refine r_aload_n dX7_lawLine_0 rfl ?_
  refine r_getR dX7_lawLine_1 flX7_32 sh_2 (by decide) rfl (pf_2_0 hq.1) ?_
  refine r_cV0v dX7_lawLine_4 vlX7_99 sh_28 (Nat.le_of_ble_eq_true rfl) (z E ex t I J P d (by omega) ht hE hq) ?_
  refine r_aload_n dX7_lawLine_7 rfl ?_
  refine r_getR dX7_lawLine_8 flX7_32 sh_2 (by decide) rfl (pf_2_0 hq.1) ?_
  refine r_getIv dX7_lawLine_11 flX7_61 sh_28 (by decide) rfl (uC_c ht (by decide) _) ?_
  refine r_bipush (v := 9) dX7_lawLine_14 (by decide) ?_
  refine r_ic_lt 31 dX7_lawLine_16 (by decide) (fun c16 => ?_) (fun c16 => ?_)
  · exact absurd c16 (by rw [h]; exact (lw9 l hl).1)
  · refine r_aload_n dX7_lawLine_19 rfl ?_
    refine r_getR dX7_lawLine_20 flX7_32 sh_2 (by decide) rfl (pf_2_0 hq.1) ?_
    refine r_getIv dX7_lawLine_23 flX7_61 sh_28 (by decide) rfl (uC_c ht (by decide) _) ?_
    refine r_bipush (v := 11) dX7_lawLine_26 (by decide) ?_
    refine r_ic_le 37 dX7_lawLine_28 (by decide) (fun c28 => ?_) (fun c28 => ?_)
    · refine r_aload_n dX7_lawLine_37 rfl ?_
      refine r_getR dX7_lawLine_38 flX7_32 sh_2 (by decide) rfl (pf_2_0 hq.1) ?_
      refine r_getIv dX7_lawLine_41 flX7_61 sh_28 (by decide) rfl (uC_cv ht (by decide) h) ?_
      refine r_bipush (v := 9) dX7_lawLine_44 (by decide) ?_
      refine r_isub dX7_lawLine_46 ?_
      rw [h9 l hl]
      refine r_istore_n1 dX7_lawLine_47 rfl ?_
      refine r_aload_n dX7_lawLine_48 rfl ?_
      refine r_getR dX7_lawLine_49 flX7_12 sh_2 (by decide) rfl hq.2.1 ?_
      refine r_getR dX7_lawLine_52 flX7_180 (tl_s _ ht) (by decide) rfl (tl_p8 hq.1 _ ht) ?_
      refine r_getR dX7_lawLine_55 flX7_184 (tl_w _ ht) (by decide) rfl (tw_p1 hq.1 _ ht) ?_
      refine r_iload_n dX7_lawLine_58 rfl ?_
      refine r_ialv dX7_lawLine_59 (tw_a1 _ ht) (vp_in_nI (n := l) (by omega) (by decide)) ((uC_tb (b := 509) (by decide) (by decide) _).trans (congrArg (K1 509) (nI_clamp (n := l) (by omega)))) ?_
      refine r_iconst (v := (-1)) dX7_lawLine_60 (by decide) ?_
      refine r_ic_eq 70 dX7_lawLine_61 (by decide) (fun c61 => ?_) (fun c61 => ?_)
      · refine r_aload_n dX7_lawLine_70 rfl ?_
        refine r_getR dX7_lawLine_71 flX7_32 sh_2 (by decide) rfl (pf_2_0 hq.1) ?_
        refine r_cV0v dX7_lawLine_74 vlX7_99 sh_28 (Nat.le_of_ble_eq_true rfl) (z2 E ex t I J P d (by omega) ht hE hq) ?_
        refine r_aload_n dX7_lawLine_77 rfl ?_
        refine r_getR dX7_lawLine_78 flX7_41 sh_2 (by decide) rfl (pf_2_1 hq.1) ?_
        refine r_aload_n dX7_lawLine_81 rfl ?_
        refine r_getR dX7_lawLine_82 flX7_12 sh_2 (by decide) rfl hq.2.1 ?_
        refine r_getR dX7_lawLine_85 flX7_180 (tl_s _ ht) (by decide) rfl (tl_p8 hq.1 _ ht) ?_
        refine r_iload_n dX7_lawLine_88 rfl ?_
        refine r_cV2i dX7_lawLine_89 vlX7_189 sh_29 (Nat.le_of_ble_eq_true rfl) (z3 E ex t I J P d (by omega) ht hE hq) ?_
        have hq := hq.t.f
        refine r_istore_n2 dX7_lawLine_92 rfl ?_
        refine r_iload_n dX7_lawLine_93 rfl ?_
        refine r_if_eq 105 dX7_lawLine_94 (by decide) (fun c94 => ?_) (fun c94 => ?_)
        · exact absurd c94 hf
        · refine r_aload_n dX7_lawLine_97 rfl ?_
          refine r_iload_n dX7_lawLine_98 rfl ?_
          refine r_cV1i dX7_lawLine_99 vlX7_86 sh_2 (Nat.le_of_ble_eq_true rfl) (fail_c f E ex t I J _ d (by omega) ht hE hq) ?_
          refine r_if_eq 109 dX7_lawLine_102 (by decide) (fun c102 => ?_) (fun c102 => ?_)
          · refine r_iconst (v := 0) dX7_lawLine_109 (by decide) ?_
            exact r_iret dX7_lawLine_110 rfl rfl rfl rfl
          · exact absurd c102 (by decide)
      · exact absurd h2 c61
    · exact absurd (by rw [h]; exact (lw9 l hl).2) c28
set_option maxHeartbeats 1000000 in
theorem skip_t {K : Nat → Nat → Int32} {K' : Nat → Nat → Int32} {a : Int32} (h : K 28 4 = a) (z : cRun false 3 yX8_advance (fun _ => [.ref 28]) K none K') : cRun false 4 yX7_skip (fun _ => [.ref 2, .int a]) K (some (.int 1)) K' := by
  refine cAt.run (h := 3) cqX7_skip (ls := [some (.ref 2), some (.int a)]) rfl (by simp [lg_sl, Value.category]) ?_
  intro E ex t I J P n hn ht hE hq
  refine r_aload_n dX7_skip_0 rfl ?_
  refine r_getR dX7_skip_1 flX7_32 sh_2 (by decide) rfl (pf_2_0 hq.1) ?_
  refine r_getIv dX7_skip_4 flX7_61 sh_28 (by decide) rfl (uC_c ht (by decide) _) ?_
  refine r_iload_n dX7_skip_7 rfl ?_
  refine r_ic_eq 17 dX7_skip_8 (by decide) (fun c8 => ?_) (fun c8 => ?_)
  · refine r_aload_n dX7_skip_17 rfl ?_
    refine r_getR dX7_skip_18 flX7_32 sh_2 (by decide) rfl (pf_2_0 hq.1) ?_
    refine r_cV0v dX7_skip_21 vlX7_99 sh_28 (Nat.le_of_ble_eq_true rfl) (z E ex t I J P n (by omega) ht hE hq) ?_
    refine r_iconst (v := 1) dX7_skip_24 (by decide) ?_
    exact r_iret dX7_skip_25 rfl rfl rfl rfl
  · exact absurd h c8
set_option maxHeartbeats 1000000 in
theorem skip_f {K : Nat → Nat → Int32} {a : Int32} (h : ¬ K 28 4 = a) : cRun false 2 yX7_skip (fun _ => [.ref 2, .int a]) K (some (.int 0)) (fC K 1) := by
  refine cAt.run (h := 1) cqX7_skip (ls := [some (.ref 2), some (.int a)]) rfl (by simp [lg_sl, Value.category]) ?_
  intro E ex t I J P n hn ht hE hq
  refine r_aload_n dX7_skip_0 rfl ?_
  refine r_getR dX7_skip_1 flX7_32 sh_2 (by decide) rfl (pf_2_0 hq.1) ?_
  refine r_getIv dX7_skip_4 flX7_61 sh_28 (by decide) rfl (uC_c ht (by decide) _) ?_
  refine r_iload_n dX7_skip_7 rfl ?_
  refine r_ic_eq 17 dX7_skip_8 (by decide) (fun c8 => ?_) (fun c8 => ?_)
  · exact absurd c8 h
  · refine r_aload_n dX7_skip_11 rfl ?_
    refine r_iconst (v := 1) dX7_skip_12 (by decide) ?_
    refine r_cV1i dX7_skip_13 vlX7_86 sh_2 (Nat.le_of_ble_eq_true rfl) (fail_c 1 E ex t I J P n (by omega) ht hE hq) ?_
    exact r_iret dX7_skip_16 rfl rfl rfl rfl
set_option maxHeartbeats 1000000 in
theorem tl_0 {K K1 K' : Nat → Nat → Int32} {r : Option Value} {v : Int32} (h : K 28 4 = nI 0) (z : cRunP 5 yX7_personLine (fun _ => [.ref 2]) K (some (.int v)) K1) (g : cAt false 4 yX7_tellLine cX7_tellLine (some .boolean) 110 [some (.ref 2), some (.int v)] [] K1 r K') : cRunP 7 yX7_tellLine (fun _ => [.ref 2]) K r K' := by
  intro E ex t I J P n hn ht hE hq
  obtain ⟨d, rfl⟩ : ∃ d, n = d + 1 := ⟨n - 1, by omega⟩
  obtain ⟨P', hP', hx⟩ := z E ex t I J P d (by omega) ht hE hq
  refine ⟨P', hP', ?_⟩
  have hq' : Aq false t P' := by
    rcases hP' with rfl | rfl
    · exact hq
    · exact hq.t.f
  refine x_enter cqX7_tellLine [some (.ref 2), none] rfl (by simp [lg_sl, Value.category]) ?_
  refine r_aload_n dX7_tellLine_0 rfl ?_
  refine r_getR dX7_tellLine_1 flX7_32 sh_2 (by decide) rfl (pf_2_0 hq.1) ?_
  refine r_getIv dX7_tellLine_4 flX7_61 sh_28 (by decide) rfl (uC_cv ht (by decide) (show K 28 4 = 0 from h)) ?_
  refine r_tsI 48 dX7_tellLine_7 (by decide) (by decide) (off := 41) rfl (by decide) ?_
  refine r_aload_n dX7_tellLine_48 rfl ?_
  refine r_cV0i dX7_tellLine_49 vlX7_64 sh_2 (Nat.le_of_ble_eq_true rfl) hx ?_
  refine r_istore_n1 dX7_tellLine_52 rfl ?_
  refine r_goto 110 dX7_tellLine_53 (by decide) ?_
  exact g E ex t I J P' d (by omega) ht hE hq'
set_option maxHeartbeats 1000000 in
theorem tl_1 {K K1 K' : Nat → Nat → Int32} {r : Option Value} {v : Int32} (h : K 28 4 = nI 1) (z : cRunP 5 yX7_debtLine (fun _ => [.ref 2]) K (some (.int v)) K1) (g : cAt false 4 yX7_tellLine cX7_tellLine (some .boolean) 110 [some (.ref 2), some (.int v)] [] K1 r K') : cRunP 7 yX7_tellLine (fun _ => [.ref 2]) K r K' := by
  intro E ex t I J P n hn ht hE hq
  obtain ⟨d, rfl⟩ : ∃ d, n = d + 1 := ⟨n - 1, by omega⟩
  obtain ⟨P', hP', hx⟩ := z E ex t I J P d (by omega) ht hE hq
  refine ⟨P', hP', ?_⟩
  have hq' : Aq false t P' := by
    rcases hP' with rfl | rfl
    · exact hq
    · exact hq.t.f
  refine x_enter cqX7_tellLine [some (.ref 2), none] rfl (by simp [lg_sl, Value.category]) ?_
  refine r_aload_n dX7_tellLine_0 rfl ?_
  refine r_getR dX7_tellLine_1 flX7_32 sh_2 (by decide) rfl (pf_2_0 hq.1) ?_
  refine r_getIv dX7_tellLine_4 flX7_61 sh_28 (by decide) rfl (uC_cv ht (by decide) (show K 28 4 = 1 from h)) ?_
  refine r_tsI 56 dX7_tellLine_7 (by decide) (by decide) (off := 49) rfl (by decide) ?_
  refine r_aload_n dX7_tellLine_56 rfl ?_
  refine r_cV0i dX7_tellLine_57 vlX7_68 sh_2 (Nat.le_of_ble_eq_true rfl) hx ?_
  refine r_istore_n1 dX7_tellLine_60 rfl ?_
  refine r_goto 110 dX7_tellLine_61 (by decide) ?_
  exact g E ex t I J P' d (by omega) ht hE hq'
set_option maxHeartbeats 1000000 in
theorem tl_2 {K K1 K' : Nat → Nat → Int32} {r : Option Value} {v : Int32} (h : K 28 4 = nI 2) (z : cRunP 6 yX7_twistLine (fun _ => [.ref 2]) K (some (.int v)) K1) (g : cAt false 4 yX7_tellLine cX7_tellLine (some .boolean) 110 [some (.ref 2), some (.int v)] [] K1 r K') : cRunP 7 yX7_tellLine (fun _ => [.ref 2]) K r K' := by
  intro E ex t I J P n hn ht hE hq
  obtain ⟨d, rfl⟩ : ∃ d, n = d + 1 := ⟨n - 1, by omega⟩
  obtain ⟨P', hP', hx⟩ := z E ex t I J P d (by omega) ht hE hq
  refine ⟨P', hP', ?_⟩
  have hq' : Aq false t P' := by
    rcases hP' with rfl | rfl
    · exact hq
    · exact hq.t.f
  refine x_enter cqX7_tellLine [some (.ref 2), none] rfl (by simp [lg_sl, Value.category]) ?_
  refine r_aload_n dX7_tellLine_0 rfl ?_
  refine r_getR dX7_tellLine_1 flX7_32 sh_2 (by decide) rfl (pf_2_0 hq.1) ?_
  refine r_getIv dX7_tellLine_4 flX7_61 sh_28 (by decide) rfl (uC_cv ht (by decide) (show K 28 4 = 2 from h)) ?_
  refine r_tsI 64 dX7_tellLine_7 (by decide) (by decide) (off := 57) rfl (by decide) ?_
  refine r_aload_n dX7_tellLine_64 rfl ?_
  refine r_cV0i dX7_tellLine_65 vlX7_71 sh_2 (Nat.le_of_ble_eq_true rfl) hx ?_
  refine r_istore_n1 dX7_tellLine_68 rfl ?_
  refine r_goto 110 dX7_tellLine_69 (by decide) ?_
  exact g E ex t I J P' d (by omega) ht hE hq'
set_option maxHeartbeats 1000000 in
theorem tl_3 {K K1 K' : Nat → Nat → Int32} {r : Option Value} {v : Int32} (h : K 28 4 = nI 3) (z : cRunP 5 yX7_crossLine (fun _ => [.ref 2]) K (some (.int v)) K1) (g : cAt false 4 yX7_tellLine cX7_tellLine (some .boolean) 110 [some (.ref 2), some (.int v)] [] K1 r K') : cRunP 7 yX7_tellLine (fun _ => [.ref 2]) K r K' := by
  intro E ex t I J P n hn ht hE hq
  obtain ⟨d, rfl⟩ : ∃ d, n = d + 1 := ⟨n - 1, by omega⟩
  obtain ⟨P', hP', hx⟩ := z E ex t I J P d (by omega) ht hE hq
  refine ⟨P', hP', ?_⟩
  have hq' : Aq false t P' := by
    rcases hP' with rfl | rfl
    · exact hq
    · exact hq.t.f
  refine x_enter cqX7_tellLine [some (.ref 2), none] rfl (by simp [lg_sl, Value.category]) ?_
  refine r_aload_n dX7_tellLine_0 rfl ?_
  refine r_getR dX7_tellLine_1 flX7_32 sh_2 (by decide) rfl (pf_2_0 hq.1) ?_
  refine r_getIv dX7_tellLine_4 flX7_61 sh_28 (by decide) rfl (uC_cv ht (by decide) (show K 28 4 = 3 from h)) ?_
  refine r_tsI 72 dX7_tellLine_7 (by decide) (by decide) (off := 65) rfl (by decide) ?_
  refine r_aload_n dX7_tellLine_72 rfl ?_
  refine r_cV0i dX7_tellLine_73 vlX7_74 sh_2 (Nat.le_of_ble_eq_true rfl) hx ?_
  refine r_istore_n1 dX7_tellLine_76 rfl ?_
  refine r_goto 110 dX7_tellLine_77 (by decide) ?_
  exact g E ex t I J P' d (by omega) ht hE hq'
set_option maxHeartbeats 1000000 in
theorem tl_4 {K K1 K' : Nat → Nat → Int32} {r : Option Value} {v : Int32} (h : K 28 4 = nI 4) (z : cRunP 5 yX7_plankLine (fun _ => [.ref 2]) K (some (.int v)) K1) (g : cAt false 4 yX7_tellLine cX7_tellLine (some .boolean) 110 [some (.ref 2), some (.int v)] [] K1 r K') : cRunP 7 yX7_tellLine (fun _ => [.ref 2]) K r K' := by
  intro E ex t I J P n hn ht hE hq
  obtain ⟨d, rfl⟩ : ∃ d, n = d + 1 := ⟨n - 1, by omega⟩
  obtain ⟨P', hP', hx⟩ := z E ex t I J P d (by omega) ht hE hq
  refine ⟨P', hP', ?_⟩
  have hq' : Aq false t P' := by
    rcases hP' with rfl | rfl
    · exact hq
    · exact hq.t.f
  refine x_enter cqX7_tellLine [some (.ref 2), none] rfl (by simp [lg_sl, Value.category]) ?_
  refine r_aload_n dX7_tellLine_0 rfl ?_
  refine r_getR dX7_tellLine_1 flX7_32 sh_2 (by decide) rfl (pf_2_0 hq.1) ?_
  refine r_getIv dX7_tellLine_4 flX7_61 sh_28 (by decide) rfl (uC_cv ht (by decide) (show K 28 4 = 4 from h)) ?_
  refine r_tsI 80 dX7_tellLine_7 (by decide) (by decide) (off := 73) rfl (by decide) ?_
  refine r_aload_n dX7_tellLine_80 rfl ?_
  refine r_cV0i dX7_tellLine_81 vlX7_77 sh_2 (Nat.le_of_ble_eq_true rfl) hx ?_
  refine r_istore_n1 dX7_tellLine_84 rfl ?_
  refine r_goto 110 dX7_tellLine_85 (by decide) ?_
  exact g E ex t I J P' d (by omega) ht hE hq'
set_option maxHeartbeats 1000000 in
theorem tl_5 {K K1 K' : Nat → Nat → Int32} {r : Option Value} {v : Int32} (h : K 28 4 = nI 5) (z : cRunP 5 yX7_seedLine (fun _ => [.ref 2]) K (some (.int v)) K1) (g : cAt false 4 yX7_tellLine cX7_tellLine (some .boolean) 110 [some (.ref 2), some (.int v)] [] K1 r K') : cRunP 7 yX7_tellLine (fun _ => [.ref 2]) K r K' := by
  intro E ex t I J P n hn ht hE hq
  obtain ⟨d, rfl⟩ : ∃ d, n = d + 1 := ⟨n - 1, by omega⟩
  obtain ⟨P', hP', hx⟩ := z E ex t I J P d (by omega) ht hE hq
  refine ⟨P', hP', ?_⟩
  have hq' : Aq false t P' := by
    rcases hP' with rfl | rfl
    · exact hq
    · exact hq.t.f
  refine x_enter cqX7_tellLine [some (.ref 2), none] rfl (by simp [lg_sl, Value.category]) ?_
  refine r_aload_n dX7_tellLine_0 rfl ?_
  refine r_getR dX7_tellLine_1 flX7_32 sh_2 (by decide) rfl (pf_2_0 hq.1) ?_
  refine r_getIv dX7_tellLine_4 flX7_61 sh_28 (by decide) rfl (uC_cv ht (by decide) (show K 28 4 = 5 from h)) ?_
  refine r_tsI 88 dX7_tellLine_7 (by decide) (by decide) (off := 81) rfl (by decide) ?_
  refine r_aload_n dX7_tellLine_88 rfl ?_
  refine r_cV0i dX7_tellLine_89 vlX7_80 sh_2 (Nat.le_of_ble_eq_true rfl) hx ?_
  refine r_istore_n1 dX7_tellLine_92 rfl ?_
  refine r_goto 110 dX7_tellLine_93 (by decide) ?_
  exact g E ex t I J P' d (by omega) ht hE hq'
set_option maxHeartbeats 1000000 in
theorem tl_6 {K K1 K' : Nat → Nat → Int32} {r : Option Value} {v : Int32} (h : K 28 4 = nI 6) (z : cRunP 6 yX7_lawLine (fun _ => [.ref 2]) K (some (.int v)) K1) (g : cAt false 4 yX7_tellLine cX7_tellLine (some .boolean) 110 [some (.ref 2), some (.int v)] [] K1 r K') : cRunP 7 yX7_tellLine (fun _ => [.ref 2]) K r K' := by
  intro E ex t I J P n hn ht hE hq
  obtain ⟨d, rfl⟩ : ∃ d, n = d + 1 := ⟨n - 1, by omega⟩
  obtain ⟨P', hP', hx⟩ := z E ex t I J P d (by omega) ht hE hq
  refine ⟨P', hP', ?_⟩
  have hq' : Aq false t P' := by
    rcases hP' with rfl | rfl
    · exact hq
    · exact hq.t.f
  refine x_enter cqX7_tellLine [some (.ref 2), none] rfl (by simp [lg_sl, Value.category]) ?_
  refine r_aload_n dX7_tellLine_0 rfl ?_
  refine r_getR dX7_tellLine_1 flX7_32 sh_2 (by decide) rfl (pf_2_0 hq.1) ?_
  refine r_getIv dX7_tellLine_4 flX7_61 sh_28 (by decide) rfl (uC_cv ht (by decide) (show K 28 4 = 6 from h)) ?_
  refine r_tsI 96 dX7_tellLine_7 (by decide) (by decide) (off := 89) rfl (by decide) ?_
  refine r_aload_n dX7_tellLine_96 rfl ?_
  refine r_cV0i dX7_tellLine_97 vlX7_83 sh_2 (Nat.le_of_ble_eq_true rfl) hx ?_
  refine r_istore_n1 dX7_tellLine_100 rfl ?_
  refine r_goto 110 dX7_tellLine_101 (by decide) ?_
  exact g E ex t I J P' d (by omega) ht hE hq'
set_option maxHeartbeats 1000000 in
theorem tl_o {K : Nat → Nat → Int32} (h : (K 28 4).toInt < 0 ∨ 6 < (K 28 4).toInt) : cRun false 2 yX7_tellLine (fun _ => [.ref 2]) K (some (.int 0)) (fC K 1) := by
  refine cAt.run (h := 1) cqX7_tellLine (ls := [some (.ref 2), none]) rfl (by simp [lg_sl, Value.category]) ?_
  intro E ex t I J P n hn ht hE hq
  refine r_aload_n dX7_tellLine_0 rfl ?_
  refine r_getR dX7_tellLine_1 flX7_32 sh_2 (by decide) rfl (pf_2_0 hq.1) ?_
  refine r_getIv dX7_tellLine_4 flX7_61 sh_28 (by decide) rfl (uC_c ht (by decide) _) ?_
  refine r_tsO 104 dX7_tellLine_7 h (by decide) ?_
  refine r_aload_n dX7_tellLine_104 rfl ?_
  refine r_iconst (v := 1) dX7_tellLine_105 (by decide) ?_
  refine r_cV1i dX7_tellLine_106 vlX7_86 sh_2 (Nat.le_of_ble_eq_true rfl) (fail_c 1 E ex t I J P n (by omega) ht hE hq) ?_
  exact r_iret dX7_tellLine_109 rfl rfl rfl rfl
set_option maxHeartbeats 1000000 in
theorem rl_0 {M : Nat → Nat → Int32} {M1 M' : Nat → Nat → Int32} {r : Option Value} {v : Int32} (h1 : M 347 8 = 1) (h2 : M 347 9 = nI 0) (z : rRun 4 yX11_personLine [.ref 347] M (some (.int v)) M1) (g : rAt 6 yX11_lineRead cX11_lineRead (some .boolean) 216 [some (.ref 347), some (.int v), none] [] M1 r M') : rRun 7 yX11_lineRead [.ref 347] M r M' := by
  refine rAt.run (h := 6) cqX11_lineRead (ls := [some (.ref 347), none, none]) rfl (by simp [lg_sl, Value.category]) ?_
  intro E ex I J P n hn hP
  refine r_aload_n dX11_lineRead_0 rfl ?_
  refine r_getIv dX11_lineRead_1 flX11_211 sh_347 (by decide) rfl (uR_r (by decide) _) ?_
  refine r_iconst (v := 1) dX11_lineRead_4 (by decide) ?_
  refine r_ic_ne 17 dX11_lineRead_5 (by decide) (fun c5 => ?_) (fun c5 => ?_)
  · exact absurd h1 c5
  · refine r_aload_n dX11_lineRead_8 rfl ?_
    refine r_getIv dX11_lineRead_9 flX11_222 sh_347 (by decide) rfl (uR_v (by decide) (show M 347 9 = 0 from h2)) ?_
    refine r_bipush (v := 6) dX11_lineRead_12 (by decide) ?_
    refine r_ic_le 23 dX11_lineRead_14 (by decide) (fun c14 => ?_) (fun c14 => ?_)
    · refine r_aload_n dX11_lineRead_23 rfl ?_
      refine r_getIv dX11_lineRead_24 flX11_222 sh_347 (by decide) rfl (uR_v (by decide) (show M 347 9 = 0 from h2)) ?_
      refine r_tsI 64 dX11_lineRead_27 (by decide) (by decide) (off := 37) rfl (by decide) ?_
      refine r_aload_n dX11_lineRead_64 rfl ?_
      refine r_cV0i dX11_lineRead_65 vlX11_303 sh_347 (Nat.le_of_ble_eq_true rfl) (z E ex I J P n (by omega) hP) ?_
      refine r_istore_n1 dX11_lineRead_68 rfl ?_
      refine r_goto 216 dX11_lineRead_69 (by decide) ?_
      exact g E ex I J P n hn hP
    · exact absurd (by decide) c14
set_option maxHeartbeats 1000000 in
theorem rl_1 {M : Nat → Nat → Int32} {M1 M' : Nat → Nat → Int32} {r : Option Value} {v : Int32} (h1 : M 347 8 = 1) (h2 : M 347 9 = nI 1) (z : rRun 4 yX11_debtLine [.ref 347] M (some (.int v)) M1) (g : rAt 6 yX11_lineRead cX11_lineRead (some .boolean) 216 [some (.ref 347), some (.int v), none] [] M1 r M') : rRun 7 yX11_lineRead [.ref 347] M r M' := by
  refine rAt.run (h := 6) cqX11_lineRead (ls := [some (.ref 347), none, none]) rfl (by simp [lg_sl, Value.category]) ?_
  intro E ex I J P n hn hP
  refine r_aload_n dX11_lineRead_0 rfl ?_
  refine r_getIv dX11_lineRead_1 flX11_211 sh_347 (by decide) rfl (uR_r (by decide) _) ?_
  refine r_iconst (v := 1) dX11_lineRead_4 (by decide) ?_
  refine r_ic_ne 17 dX11_lineRead_5 (by decide) (fun c5 => ?_) (fun c5 => ?_)
  · exact absurd h1 c5
  · refine r_aload_n dX11_lineRead_8 rfl ?_
    refine r_getIv dX11_lineRead_9 flX11_222 sh_347 (by decide) rfl (uR_v (by decide) (show M 347 9 = 1 from h2)) ?_
    refine r_bipush (v := 6) dX11_lineRead_12 (by decide) ?_
    refine r_ic_le 23 dX11_lineRead_14 (by decide) (fun c14 => ?_) (fun c14 => ?_)
    · refine r_aload_n dX11_lineRead_23 rfl ?_
      refine r_getIv dX11_lineRead_24 flX11_222 sh_347 (by decide) rfl (uR_v (by decide) (show M 347 9 = 1 from h2)) ?_
      refine r_tsI 72 dX11_lineRead_27 (by decide) (by decide) (off := 45) rfl (by decide) ?_
      refine r_aload_n dX11_lineRead_72 rfl ?_
      refine r_cV0i dX11_lineRead_73 vlX11_306 sh_347 (Nat.le_of_ble_eq_true rfl) (z E ex I J P n (by omega) hP) ?_
      refine r_istore_n1 dX11_lineRead_76 rfl ?_
      refine r_goto 216 dX11_lineRead_77 (by decide) ?_
      exact g E ex I J P n hn hP
    · exact absurd (by decide) c14
set_option maxHeartbeats 1000000 in
theorem rl_2 {M : Nat → Nat → Int32} {M1 M' : Nat → Nat → Int32} {r : Option Value} {v : Int32} (h1 : M 347 8 = 1) (h2 : M 347 9 = nI 2) (z : rRun 5 yX11_twistLine [.ref 347] M (some (.int v)) M1) (g : rAt 6 yX11_lineRead cX11_lineRead (some .boolean) 216 [some (.ref 347), some (.int v), none] [] M1 r M') : rRun 7 yX11_lineRead [.ref 347] M r M' := by
  refine rAt.run (h := 6) cqX11_lineRead (ls := [some (.ref 347), none, none]) rfl (by simp [lg_sl, Value.category]) ?_
  intro E ex I J P n hn hP
  refine r_aload_n dX11_lineRead_0 rfl ?_
  refine r_getIv dX11_lineRead_1 flX11_211 sh_347 (by decide) rfl (uR_r (by decide) _) ?_
  refine r_iconst (v := 1) dX11_lineRead_4 (by decide) ?_
  refine r_ic_ne 17 dX11_lineRead_5 (by decide) (fun c5 => ?_) (fun c5 => ?_)
  · exact absurd h1 c5
  · refine r_aload_n dX11_lineRead_8 rfl ?_
    refine r_getIv dX11_lineRead_9 flX11_222 sh_347 (by decide) rfl (uR_v (by decide) (show M 347 9 = 2 from h2)) ?_
    refine r_bipush (v := 6) dX11_lineRead_12 (by decide) ?_
    refine r_ic_le 23 dX11_lineRead_14 (by decide) (fun c14 => ?_) (fun c14 => ?_)
    · refine r_aload_n dX11_lineRead_23 rfl ?_
      refine r_getIv dX11_lineRead_24 flX11_222 sh_347 (by decide) rfl (uR_v (by decide) (show M 347 9 = 2 from h2)) ?_
      refine r_tsI 80 dX11_lineRead_27 (by decide) (by decide) (off := 53) rfl (by decide) ?_
      refine r_aload_n dX11_lineRead_80 rfl ?_
      refine r_cV0i dX11_lineRead_81 vlX11_309 sh_347 (Nat.le_of_ble_eq_true rfl) (z E ex I J P n (by omega) hP) ?_
      refine r_istore_n1 dX11_lineRead_84 rfl ?_
      refine r_goto 216 dX11_lineRead_85 (by decide) ?_
      exact g E ex I J P n hn hP
    · exact absurd (by decide) c14
set_option maxHeartbeats 1000000 in
theorem rl_3 {M : Nat → Nat → Int32} {M1 M' : Nat → Nat → Int32} {r : Option Value} {v : Int32} (h1 : M 347 8 = 1) (h2 : M 347 9 = nI 3) (z : rRun 4 yX11_crossLine [.ref 347] M (some (.int v)) M1) (g : rAt 6 yX11_lineRead cX11_lineRead (some .boolean) 216 [some (.ref 347), some (.int v), none] [] M1 r M') : rRun 7 yX11_lineRead [.ref 347] M r M' := by
  refine rAt.run (h := 6) cqX11_lineRead (ls := [some (.ref 347), none, none]) rfl (by simp [lg_sl, Value.category]) ?_
  intro E ex I J P n hn hP
  refine r_aload_n dX11_lineRead_0 rfl ?_
  refine r_getIv dX11_lineRead_1 flX11_211 sh_347 (by decide) rfl (uR_r (by decide) _) ?_
  refine r_iconst (v := 1) dX11_lineRead_4 (by decide) ?_
  refine r_ic_ne 17 dX11_lineRead_5 (by decide) (fun c5 => ?_) (fun c5 => ?_)
  · exact absurd h1 c5
  · refine r_aload_n dX11_lineRead_8 rfl ?_
    refine r_getIv dX11_lineRead_9 flX11_222 sh_347 (by decide) rfl (uR_v (by decide) (show M 347 9 = 3 from h2)) ?_
    refine r_bipush (v := 6) dX11_lineRead_12 (by decide) ?_
    refine r_ic_le 23 dX11_lineRead_14 (by decide) (fun c14 => ?_) (fun c14 => ?_)
    · refine r_aload_n dX11_lineRead_23 rfl ?_
      refine r_getIv dX11_lineRead_24 flX11_222 sh_347 (by decide) rfl (uR_v (by decide) (show M 347 9 = 3 from h2)) ?_
      refine r_tsI 88 dX11_lineRead_27 (by decide) (by decide) (off := 61) rfl (by decide) ?_
      refine r_aload_n dX11_lineRead_88 rfl ?_
      refine r_cV0i dX11_lineRead_89 vlX11_312 sh_347 (Nat.le_of_ble_eq_true rfl) (z E ex I J P n (by omega) hP) ?_
      refine r_istore_n1 dX11_lineRead_92 rfl ?_
      refine r_goto 216 dX11_lineRead_93 (by decide) ?_
      exact g E ex I J P n hn hP
    · exact absurd (by decide) c14
set_option maxHeartbeats 1000000 in
theorem rl_4 {M : Nat → Nat → Int32} {M1 M' : Nat → Nat → Int32} {r : Option Value} {v : Int32} (h1 : M 347 8 = 1) (h2 : M 347 9 = nI 4) (z : rRun 4 yX11_onceLine [.ref 347, .int 0, .int 999] M (some (.int v)) M1) (g : rAt 6 yX11_lineRead cX11_lineRead (some .boolean) 216 [some (.ref 347), some (.int v), none] [] M1 r M') : rRun 7 yX11_lineRead [.ref 347] M r M' := by
  refine rAt.run (h := 6) cqX11_lineRead (ls := [some (.ref 347), none, none]) rfl (by simp [lg_sl, Value.category]) ?_
  intro E ex I J P n hn hP
  refine r_aload_n dX11_lineRead_0 rfl ?_
  refine r_getIv dX11_lineRead_1 flX11_211 sh_347 (by decide) rfl (uR_r (by decide) _) ?_
  refine r_iconst (v := 1) dX11_lineRead_4 (by decide) ?_
  refine r_ic_ne 17 dX11_lineRead_5 (by decide) (fun c5 => ?_) (fun c5 => ?_)
  · exact absurd h1 c5
  · refine r_aload_n dX11_lineRead_8 rfl ?_
    refine r_getIv dX11_lineRead_9 flX11_222 sh_347 (by decide) rfl (uR_v (by decide) (show M 347 9 = 4 from h2)) ?_
    refine r_bipush (v := 6) dX11_lineRead_12 (by decide) ?_
    refine r_ic_le 23 dX11_lineRead_14 (by decide) (fun c14 => ?_) (fun c14 => ?_)
    · refine r_aload_n dX11_lineRead_23 rfl ?_
      refine r_getIv dX11_lineRead_24 flX11_222 sh_347 (by decide) rfl (uR_v (by decide) (show M 347 9 = 4 from h2)) ?_
      refine r_tsI 96 dX11_lineRead_27 (by decide) (by decide) (off := 69) rfl (by decide) ?_
      refine r_aload_n dX11_lineRead_96 rfl ?_
      refine r_iconst (v := 0) dX11_lineRead_97 (by decide) ?_
      refine r_sipush (v := 999) dX11_lineRead_98 (by decide) ?_
      refine r_cV2i dX11_lineRead_101 vlX11_315 sh_347 (Nat.le_of_ble_eq_true rfl) (z E ex I J P n (by omega) hP) ?_
      refine r_istore_n1 dX11_lineRead_104 rfl ?_
      refine r_goto 216 dX11_lineRead_105 (by decide) ?_
      exact g E ex I J P n hn hP
    · exact absurd (by decide) c14
set_option maxHeartbeats 1000000 in
theorem rl_5 {M : Nat → Nat → Int32} {M1 M' : Nat → Nat → Int32} {r : Option Value} {v : Int32} (h1 : M 347 8 = 1) (h2 : M 347 9 = nI 5) (z : rRun 4 yX11_onceLine [.ref 347, .int 1, .int 99999] M (some (.int v)) M1) (g : rAt 6 yX11_lineRead cX11_lineRead (some .boolean) 216 [some (.ref 347), some (.int v), none] [] M1 r M') : rRun 7 yX11_lineRead [.ref 347] M r M' := by
  refine rAt.run (h := 6) cqX11_lineRead (ls := [some (.ref 347), none, none]) rfl (by simp [lg_sl, Value.category]) ?_
  intro E ex I J P n hn hP
  refine r_aload_n dX11_lineRead_0 rfl ?_
  refine r_getIv dX11_lineRead_1 flX11_211 sh_347 (by decide) rfl (uR_r (by decide) _) ?_
  refine r_iconst (v := 1) dX11_lineRead_4 (by decide) ?_
  refine r_ic_ne 17 dX11_lineRead_5 (by decide) (fun c5 => ?_) (fun c5 => ?_)
  · exact absurd h1 c5
  · refine r_aload_n dX11_lineRead_8 rfl ?_
    refine r_getIv dX11_lineRead_9 flX11_222 sh_347 (by decide) rfl (uR_v (by decide) (show M 347 9 = 5 from h2)) ?_
    refine r_bipush (v := 6) dX11_lineRead_12 (by decide) ?_
    refine r_ic_le 23 dX11_lineRead_14 (by decide) (fun c14 => ?_) (fun c14 => ?_)
    · refine r_aload_n dX11_lineRead_23 rfl ?_
      refine r_getIv dX11_lineRead_24 flX11_222 sh_347 (by decide) rfl (uR_v (by decide) (show M 347 9 = 5 from h2)) ?_
      refine r_tsI 108 dX11_lineRead_27 (by decide) (by decide) (off := 81) rfl (by decide) ?_
      refine r_aload_n dX11_lineRead_108 rfl ?_
      refine r_iconst (v := 1) dX11_lineRead_109 (by decide) ?_
      refine r_ldc dX11_lineRead_110 kcX11_231 ?_
      refine r_cV2i dX11_lineRead_112 vlX11_315 sh_347 (Nat.le_of_ble_eq_true rfl) (z E ex I J P n (by omega) hP) ?_
      refine r_istore_n1 dX11_lineRead_115 rfl ?_
      refine r_goto 216 dX11_lineRead_116 (by decide) ?_
      exact g E ex I J P n hn hP
    · exact absurd (by decide) c14
set_option maxHeartbeats 1000000 in
theorem rl_o {M : Nat → Nat → Int32} (h : ¬ M 347 8 = 1 ∨ ¬ M 347 9 ≤ 6) : rRun 2 yX11_lineRead [.ref 347] M (some (.int 0)) (fR M 1) := by
  refine rAt.run (h := 1) cqX11_lineRead (ls := [some (.ref 347), none, none]) rfl (by simp [lg_sl, Value.category]) ?_
  intro E ex I J P n hn hP
  refine r_aload_n dX11_lineRead_0 rfl ?_
  refine r_getIv dX11_lineRead_1 flX11_211 sh_347 (by decide) rfl (uR_r (by decide) _) ?_
  refine r_iconst (v := 1) dX11_lineRead_4 (by decide) ?_
  refine r_ic_ne 17 dX11_lineRead_5 (by decide) (fun c5 => ?_) (fun c5 => ?_)
  · refine r_aload_n dX11_lineRead_17 rfl ?_
    refine r_iconst (v := 1) dX11_lineRead_18 (by decide) ?_
    refine r_cV1i dX11_lineRead_19 vlX11_235 sh_347 (Nat.le_of_ble_eq_true rfl) (wrong_r 1 E ex I J P n (by omega) hP) ?_
    exact r_iret dX11_lineRead_22 rfl rfl rfl rfl
  · refine r_aload_n dX11_lineRead_8 rfl ?_
    refine r_getIv dX11_lineRead_9 flX11_222 sh_347 (by decide) rfl (uR_r (by decide) _) ?_
    refine r_bipush (v := 6) dX11_lineRead_12 (by decide) ?_
    refine r_ic_le 23 dX11_lineRead_14 (by decide) (fun c14 => ?_) (fun c14 => ?_)
    · exact absurd (h.resolve_left (fun z => z c5)) (fun z => z c14)
    · refine r_aload_n dX11_lineRead_17 rfl ?_
      refine r_iconst (v := 1) dX11_lineRead_18 (by decide) ?_
      refine r_cV1i dX11_lineRead_19 vlX11_235 sh_347 (Nat.le_of_ble_eq_true rfl) (wrong_r 1 E ex I J P n (by omega) hP) ?_
      exact r_iret dX11_lineRead_22 rfl rfl rfl rfl
