/-! any line on both sides, joined -/
set_option maxHeartbeats 4000000 in
theorem tail_J {s p i1 p1 np1 nd1 nc1 q1 ln : Nat} {M K1 M1 : Nat → Nat → Int32} {x2 : Option Value} (h : Rl s i1 p1 np1 nd1 nc1 q1 ln K1 M1) (hp : p < p1) (hl : LF M M1) : JG (cAt false 4 yX7_tellLine cX7_tellLine (some .boolean) 110 [some (.ref 2), some (.int 1)] [] K1) (rAt 6 yX11_lineRead cX11_lineRead (some .boolean) 216 [some (.ref 347), some (.int 1), x2] [] M1) (Qe M (fun K' M' => ∃ i' p' np' nd' nc' q', p < p' ∧ Rl s i' p' np' nd' nc' q' (ln + 1) K' M')) := by
  obtain ⟨gt, gf, gp, gd, gx, go, gw, gb⟩ := h
  have hK : ∀ a k, ¬ (a = 500 ∧ k = 10) → (xu K1 500 10 (nI (ln + 1))) a k = K1 a k := fun a k z => xu_ne z
  have t1 : jT s i1 p1 (xu K1 500 10 (nI (ln + 1))) M1 := gt.c (fun a k z => hK a k (by omega)) (fun a k z => rfl)
  rcases gt.tk.sgn (k0 := 35) (w0 := 59) (Or.inl ⟨rfl, rfl⟩) with ⟨y1, y2⟩ | ⟨y1, y2⟩
  case inr =>
    refine JG.fin (r := some (.int 0)) (r' := some (.int 0)) (K' := fC (xu K1 500 10 (nI (ln + 1))) 1) (M' := fR M1 1) ?_ ?_ (Qe.bad t1 hl (gb.c (fun a k z => hK a k (by omega))) 1)
    · intro E ex t I J P n hn ht hE hq
      refine r_aload_n dX7_tellLine_110 rfl ?_
      refine r_getR dX7_tellLine_111 flX7_12 sh_2 (by decide) rfl hq.2.1 ?_
      refine r_dup dX7_tellLine_114 rfl ?_
      refine r_getIv dX7_tellLine_115 flX7_90 (tl_s _ ht) (by decide) rfl (uC_t0v go.1) ?_
      refine r_iconst (v := 1) dX7_tellLine_118 (by decide) ?_
      refine r_iadd dX7_tellLine_119 ?_
      rw [nI_1]
      refine r_putIv dX7_tellLine_120 flX7_90 ⟨_, _, _, rfl, Or.inl rfl⟩ (tl_s _ ht) (by decide) rfl rfl rfl (uC_xt0 _ _ ht) ?_
      refine r_iload_n dX7_tellLine_123 rfl ?_
      refine r_if_eq 140 dX7_tellLine_124 (by decide) (fun c124 => ?_) (fun c124 => ?_)
      · exact absurd c124 (by decide)
      · refine r_aload_n dX7_tellLine_127 rfl ?_
        refine r_bipush (v := 35) dX7_tellLine_128 (by decide) ?_
        refine r_cV1i dX7_tellLine_130 vlX7_93 sh_2 (Nat.le_of_ble_eq_true rfl) (skip_f (fun z => y1 ((hK _ _ (by omega)).symm.trans z)) E ex t I J P n (by omega) ht hE hq) ?_
        refine r_if_eq 140 dX7_tellLine_133 (by decide) (fun c133 => ?_) (fun c133 => ?_)
        · refine r_iconst (v := 0) dX7_tellLine_140 (by decide) ?_
          exact r_iret dX7_tellLine_141 rfl rfl rfl rfl
        · exact absurd c133 (by decide)
    · intro E ex I J P n hn hP
      refine r_iload_n dX11_lineRead_216 rfl ?_
      refine r_if_ne 222 dX11_lineRead_217 (by decide) (fun c217 => ?_) (fun c217 => ?_)
      · refine r_aload_n dX11_lineRead_222 rfl ?_
        refine r_bipush (v := 59) dX11_lineRead_223 (by decide) ?_
        refine r_cV1i dX11_lineRead_225 vlX11_248 sh_347 (Nat.le_of_ble_eq_true rfl) (isSign_r_f y2 E ex I J P n (by omega) hP) ?_
        refine r_if_ne 237 dX11_lineRead_228 (by decide) (fun c228 => ?_) (fun c228 => ?_)
        · exact absurd c228 (by decide)
        · refine r_aload_n dX11_lineRead_231 rfl ?_
          refine r_iconst (v := 1) dX11_lineRead_232 (by decide) ?_
          refine r_cV1i dX11_lineRead_233 vlX11_235 sh_347 (Nat.le_of_ble_eq_true rfl) (wrong_r 1 E ex I J P n (by omega) hP) ?_
          exact r_iret dX11_lineRead_236 rfl rfl rfl rfl
      · exact absurd c217 (by decide)
  obtain ⟨i2, p2, K2, M2, a1, a2, a3, a4, a5⟩ := adv_R t1
  have o1 := gt.2.2.1
  refine JG.fin (r := some (.int 1)) (r' := some (.int 1)) (K' := K2) (M' := M2) ?_ ?_ ?_
  · intro E ex t I J P n hn ht hE hq
    refine r_aload_n dX7_tellLine_110 rfl ?_
    refine r_getR dX7_tellLine_111 flX7_12 sh_2 (by decide) rfl hq.2.1 ?_
    refine r_dup dX7_tellLine_114 rfl ?_
    refine r_getIv dX7_tellLine_115 flX7_90 (tl_s _ ht) (by decide) rfl (uC_t0v go.1) ?_
    refine r_iconst (v := 1) dX7_tellLine_118 (by decide) ?_
    refine r_iadd dX7_tellLine_119 ?_
    rw [nI_1]
    refine r_putIv dX7_tellLine_120 flX7_90 ⟨_, _, _, rfl, Or.inl rfl⟩ (tl_s _ ht) (by decide) rfl rfl rfl (uC_xt0 _ _ ht) ?_
    refine r_iload_n dX7_tellLine_123 rfl ?_
    refine r_if_eq 140 dX7_tellLine_124 (by decide) (fun c124 => ?_) (fun c124 => ?_)
    · exact absurd c124 (by decide)
    · refine r_aload_n dX7_tellLine_127 rfl ?_
      refine r_bipush (v := 35) dX7_tellLine_128 (by decide) ?_
      refine r_cV1i dX7_tellLine_130 vlX7_93 sh_2 (Nat.le_of_ble_eq_true rfl) (skip_t ((hK _ _ (by omega)).trans y1) a4 E ex t I J P n (by omega) ht hE hq) ?_
      refine r_if_eq 140 dX7_tellLine_133 (by decide) (fun c133 => ?_) (fun c133 => ?_)
      · exact absurd c133 (by decide)
      · refine r_iconst (v := 1) dX7_tellLine_136 (by decide) ?_
        refine r_goto 141 dX7_tellLine_137 (by decide) ?_
        exact r_iret dX7_tellLine_141 rfl rfl rfl rfl
  · intro E ex I J P n hn hP
    refine r_iload_n dX11_lineRead_216 rfl ?_
    refine r_if_ne 222 dX11_lineRead_217 (by decide) (fun c217 => ?_) (fun c217 => ?_)
    · refine r_aload_n dX11_lineRead_222 rfl ?_
      refine r_bipush (v := 59) dX11_lineRead_223 (by decide) ?_
      refine r_cV1i dX11_lineRead_225 vlX11_248 sh_347 (Nat.le_of_ble_eq_true rfl) (isSign_r_t y2 E ex I J P n (by omega) hP) ?_
      refine r_if_ne 237 dX11_lineRead_228 (by decide) (fun c228 => ?_) (fun c228 => ?_)
      · refine r_aload_n dX11_lineRead_237 rfl ?_
        refine r_cV0v dX11_lineRead_238 vlX11_245 sh_347 (Nat.le_of_ble_eq_true rfl) (a5 E ex I J P n (by omega) hP) ?_
        refine r_iconst (v := 1) dX11_lineRead_241 (by decide) ?_
        exact r_iret dX11_lineRead_242 rfl rfl rfl rfl
      · exact absurd c228 (by decide)
    · exact absurd c217 (by decide)
  · have go2 : jO (ln + 1) K2 M2 := by
      obtain ⟨h0, h1, h2, h3, h4, h5, h6⟩ := go
      have e : ∀ a k, ¬ (a = 28 ∨ (a = 500 ∧ k = 10)) → K2 a k = K1 a k := fun a k z => (a3.1 a k (by omega)).trans (hK a k (by omega))
      refine ⟨(a3.1 _ _ (by omega)).trans (xu_s _ _ _ _), ?_, ?_, ?_, ?_, (e _ _ (by omega)).trans h5, fun k hk => (e _ _ (by omega)).trans (h6 k hk)⟩
      · rw [e 500 11 (by omega), a3.2 350 0 (by omega)]; exact h1
      · rw [e 500 12 (by omega), a3.2 350 1 (by omega)]; exact h2
      · rw [e 16 14 (by omega), a3.2 351 2 (by omega)]; exact h3
      · rw [e 16 14 (by omega)]; exact h4
    have jf : jF K2 M2 := gf.c (fun a k z => (a3.1 a k (by omega)).trans (hK a k (by omega))) (fun a k z => a3.2 a k (by omega))
    have jb : jB K2 := gb.c (fun a k z => (a3.1 a k (by omega)).trans (hK a k (by omega)))
    exact Qe.m1 (hl.tr a3.lf) jf jb ⟨i2, p2, np1, nd1, nc1, q1, by omega, a2, jf, gp.c (fun a k z => (a3.1 a k (by omega)).trans (hK a k (by omega))) (fun a k z => a3.2 a k (by omega)), gd.c (fun a k z => (a3.1 a k (by omega)).trans (hK a k (by omega))) (fun a k z => a3.2 a k (by omega)), gx.c (fun a k z => (a3.1 a k (by omega)).trans (hK a k (by omega))) (fun a k z => a3.2 a k (by omega)), go2, gw.c (fun a k z => (a3.1 a k (by omega)).trans (hK a k (by omega))) (fun a k z => a3.2 a k (by omega)), jb⟩
set_option maxHeartbeats 4000000 in
theorem tail_F {s p ln : Nat} {M K1 M1 : Nat → Nat → Int32} {x2 : Option Value} (hl : LF M M1) (hf : jF K1 M1) (hb : jB K1) : JG (cAt false 4 yX7_tellLine cX7_tellLine (some .boolean) 110 [some (.ref 2), some (.int 0)] [] K1) (rAt 6 yX11_lineRead cX11_lineRead (some .boolean) 216 [some (.ref 347), some (.int 0), x2] [] M1) (Qe M (fun K' M' => ∃ i' p' np' nd' nc' q', p < p' ∧ Rl s i' p' np' nd' nc' q' (ln + 1) K' M')) := by
  refine JG.fin (r := some (.int 0)) (r' := some (.int 0)) (K' := xu K1 500 10 (K1 500 10 + 1)) (M' := M1) ?_ ?_ ?_
  · intro E ex t I J P n hn ht hE hq
    refine r_aload_n dX7_tellLine_110 rfl ?_
    refine r_getR dX7_tellLine_111 flX7_12 sh_2 (by decide) rfl hq.2.1 ?_
    refine r_dup dX7_tellLine_114 rfl ?_
    refine r_getIv dX7_tellLine_115 flX7_90 (tl_s _ ht) (by decide) rfl (uC_t0 _) ?_
    refine r_iconst (v := 1) dX7_tellLine_118 (by decide) ?_
    refine r_iadd dX7_tellLine_119 ?_
    refine r_putIv dX7_tellLine_120 flX7_90 ⟨_, _, _, rfl, Or.inl rfl⟩ (tl_s _ ht) (by decide) rfl rfl rfl (uC_xt0 _ _ ht) ?_
    refine r_iload_n dX7_tellLine_123 rfl ?_
    refine r_if_eq 140 dX7_tellLine_124 (by decide) (fun c124 => ?_) (fun c124 => ?_)
    · refine r_iconst (v := 0) dX7_tellLine_140 (by decide) ?_
      exact r_iret dX7_tellLine_141 rfl rfl rfl rfl
    · exact absurd c124 (by decide)
  · intro E ex I J P n hn hP
    refine r_iload_n dX11_lineRead_216 rfl ?_
    refine r_if_ne 222 dX11_lineRead_217 (by decide) (fun c217 => ?_) (fun c217 => ?_)
    · exact absurd c217 (by decide)
    · refine r_iconst (v := 0) dX11_lineRead_220 (by decide) ?_
      exact r_iret dX11_lineRead_221 rfl rfl rfl rfl
  · exact Qe.m0 hl (hf.c (fun a k z => xu_ne (by omega)) (fun a k z => rfl)) (hb.c (fun a k z => xu_ne (by omega)))
theorem tail_Q {s p ln : Nat} {M K1 M1 : Nat → Nat → Int32} {x2 r1 r1' : Option Value} (q : Qe M (fun K' M' => ∃ i' p' np' nd' nc' q', p < p' ∧ Rl s i' p' np' nd' nc' q' ln K' M') r1 K1 r1' M1) : ∃ v, r1 = some (.int v) ∧ r1' = some (.int v) ∧ JG (cAt false 4 yX7_tellLine cX7_tellLine (some .boolean) 110 [some (.ref 2), some (.int v)] [] K1) (rAt 6 yX11_lineRead cX11_lineRead (some .boolean) 216 [some (.ref 347), some (.int v), x2] [] M1) (Qe M (fun K' M' => ∃ i' p' np' nd' nc' q', p < p' ∧ Rl s i' p' np' nd' nc' q' (ln + 1) K' M')) := by
  obtain ⟨rfl, q1, q2, q3, q4⟩ := q
  rcases q4 with rfl | ⟨rfl, i', p', np', nd', nc', q', z1, z2⟩
  · exact ⟨0, rfl, rfl, tail_F q1 q2 q3⟩
  · exact ⟨1, rfl, rfl, tail_J z2 z1 q1⟩
set_option maxHeartbeats 1000000 in
theorem tail_c0 (K1 : Nat → Nat → Int32) : cAt false 4 yX7_tellLine cX7_tellLine (some .boolean) 110 [some (.ref 2), some (.int 0)] [] K1 (some (.int 0)) (xu K1 500 10 (K1 500 10 + 1)) := by
  intro E ex t I J P n hn ht hE hq
  refine r_aload_n dX7_tellLine_110 rfl ?_
  refine r_getR dX7_tellLine_111 flX7_12 sh_2 (by decide) rfl hq.2.1 ?_
  refine r_dup dX7_tellLine_114 rfl ?_
  refine r_getIv dX7_tellLine_115 flX7_90 (tl_s _ ht) (by decide) rfl (uC_t0 _) ?_
  refine r_iconst (v := 1) dX7_tellLine_118 (by decide) ?_
  refine r_iadd dX7_tellLine_119 ?_
  refine r_putIv dX7_tellLine_120 flX7_90 ⟨_, _, _, rfl, Or.inl rfl⟩ (tl_s _ ht) (by decide) rfl rfl rfl (uC_xt0 _ _ ht) ?_
  refine r_iload_n dX7_tellLine_123 rfl ?_
  refine r_if_eq 140 dX7_tellLine_124 (by decide) (fun c124 => ?_) (fun c124 => ?_)
  · refine r_iconst (v := 0) dX7_tellLine_140 (by decide) ?_
    exact r_iret dX7_tellLine_141 rfl rfl rfl rfl
  · exact absurd c124 (by decide)
theorem cRunP.le {h h2 : Nat} {y : MethodName} {vs : Nat → List Value} {K K' : Nat → Nat → Int32} {r : Option Value} (z : cRunP h y vs K r K') (hh : h ≤ h2) : cRunP h2 y vs K r K' := fun E ex t I J P n hn ht hE hq => z E ex t I J P n (by omega) ht hE hq
set_option maxHeartbeats 8000000 in
theorem lawl_R {s i p np nd nc q ln : Nat} {K M : Nat → Nat → Int32} (h : Rl s i p np nd nc q ln K M) (hk0 : K 28 4 = nI 6) (h1 : M 347 8 = 1) (h2 : M 347 9 = nI 6) : ∃ r K' r' M', cRunP 7 yX7_tellLine (fun _ => [.ref 2]) K r K' ∧ rRun 7 yX11_lineRead [.ref 347] M r' M' ∧ (Qe M (fun K' M' => ∃ i' p' np' nd' nc' q', p < p' ∧ Rl s i' p' np' nd' nc' q' (ln + 1) K' M')) r K' r' M' := by
  have h' := h
  obtain ⟨gt, gf, gp, gd, gx, go, gw, gb⟩ := h'
  have hpi : p < i := gt.2.2.2.1 (by rw [hk0]; decide)
  obtain ⟨i1, p1, K1, M1, a1, a2, a3, a4, a5⟩ := adv_R gt
  have o1 := a2.2.2.1
  have hb1 : jB K1 := gb.c (fun a k z => a3.1 a k (by omega))
  have hf1 : jF K1 M1 := gf.c (fun a k z => a3.1 a k (by omega)) (fun a k z => a3.2 a k (by omega))
  have hw1 : jW q K1 M1 := gw.c (fun a k z => a3.1 a k (by omega)) (fun a k z => a3.2 a k (by omega))
  rcases a2.tk.law with ⟨l, hl, y1, y2, y3⟩ | ⟨y1, y2⟩
  case inr =>
    refine ⟨some (.int 0), _, some (.int 0), fR M1 1, tl_6 hk0 ((law_1 a4 y1).p.le (by decide)) (tail_c0 _), ?_, Qe.m0 (a3.lf.tr (bad_N K1 M1 1).lf) ((bad_F a2 1).c (fun a k z => xu_ne (by omega)) (fun a k z => rfl)) (((bad_N K1 M1 1).gb hb1).c (fun a k z => xu_ne (by omega)))⟩
    refine rAt.run (h := 6) cqX11_lineRead (ls := [some (.ref 347), none, none]) rfl (by simp [lg_sl, Value.category]) ?_
    intro E ex I J P n hn hP
    rcases y2 with y2 | y2 | y2
    · refine r_aload_n dX11_lineRead_0 rfl ?_
      refine r_getIv dX11_lineRead_1 flX11_211 sh_347 (by decide) rfl (uR_r (by decide) _) ?_
      refine r_iconst (v := 1) dX11_lineRead_4 (by decide) ?_
      refine r_ic_ne 17 dX11_lineRead_5 (by decide) (fun c5 => ?_) (fun c5 => ?_)
      · exact absurd h1 c5
      · refine r_aload_n dX11_lineRead_8 rfl ?_
        refine r_getIv dX11_lineRead_9 flX11_222 sh_347 (by decide) rfl (uR_v (by decide) (show M 347 9 = 6 from h2)) ?_
        refine r_bipush (v := 6) dX11_lineRead_12 (by decide) ?_
        refine r_ic_le 23 dX11_lineRead_14 (by decide) (fun c14 => ?_) (fun c14 => ?_)
        · refine r_aload_n dX11_lineRead_23 rfl ?_
          refine r_getIv dX11_lineRead_24 flX11_222 sh_347 (by decide) rfl (uR_v (by decide) (show M 347 9 = 6 from h2)) ?_
          refine r_tsO 119 dX11_lineRead_27 (Or.inr (by decide)) (by decide) ?_
          refine r_aload_n dX11_lineRead_119 rfl ?_
          refine r_cV0v dX11_lineRead_120 vlX11_245 sh_347 (Nat.le_of_ble_eq_true rfl) (a5 E ex I J P n (by omega) hP) ?_
          refine r_aload_n dX11_lineRead_123 rfl ?_
          refine r_getIv dX11_lineRead_124 flX11_211 sh_347 (by decide) rfl (uR_r (by decide) _) ?_
          refine r_iconst (v := 1) dX11_lineRead_127 (by decide) ?_
          refine r_ic_ne 149 dX11_lineRead_128 (by decide) (fun c128 => ?_) (fun c128 => ?_)
          · refine r_aload_n dX11_lineRead_149 rfl ?_
            refine r_iconst (v := 1) dX11_lineRead_150 (by decide) ?_
            refine r_cV1i dX11_lineRead_151 vlX11_235 sh_347 (Nat.le_of_ble_eq_true rfl) (wrong_r 1 E ex I J P n (by omega) hP) ?_
            exact r_iret dX11_lineRead_154 rfl rfl rfl rfl
          · exact absurd c128 y2
        · exact absurd (by decide) c14
    · refine r_aload_n dX11_lineRead_0 rfl ?_
      refine r_getIv dX11_lineRead_1 flX11_211 sh_347 (by decide) rfl (uR_r (by decide) _) ?_
      refine r_iconst (v := 1) dX11_lineRead_4 (by decide) ?_
      refine r_ic_ne 17 dX11_lineRead_5 (by decide) (fun c5 => ?_) (fun c5 => ?_)
      · exact absurd h1 c5
      · refine r_aload_n dX11_lineRead_8 rfl ?_
        refine r_getIv dX11_lineRead_9 flX11_222 sh_347 (by decide) rfl (uR_v (by decide) (show M 347 9 = 6 from h2)) ?_
        refine r_bipush (v := 6) dX11_lineRead_12 (by decide) ?_
        refine r_ic_le 23 dX11_lineRead_14 (by decide) (fun c14 => ?_) (fun c14 => ?_)
        · refine r_aload_n dX11_lineRead_23 rfl ?_
          refine r_getIv dX11_lineRead_24 flX11_222 sh_347 (by decide) rfl (uR_v (by decide) (show M 347 9 = 6 from h2)) ?_
          refine r_tsO 119 dX11_lineRead_27 (Or.inr (by decide)) (by decide) ?_
          refine r_aload_n dX11_lineRead_119 rfl ?_
          refine r_cV0v dX11_lineRead_120 vlX11_245 sh_347 (Nat.le_of_ble_eq_true rfl) (a5 E ex I J P n (by omega) hP) ?_
          refine r_aload_n dX11_lineRead_123 rfl ?_
          refine r_getIv dX11_lineRead_124 flX11_211 sh_347 (by decide) rfl (uR_r (by decide) _) ?_
          refine r_iconst (v := 1) dX11_lineRead_127 (by decide) ?_
          refine r_ic_ne 149 dX11_lineRead_128 (by decide) (fun c128 => ?_) (fun c128 => ?_)
          · refine r_aload_n dX11_lineRead_149 rfl ?_
            refine r_iconst (v := 1) dX11_lineRead_150 (by decide) ?_
            refine r_cV1i dX11_lineRead_151 vlX11_235 sh_347 (Nat.le_of_ble_eq_true rfl) (wrong_r 1 E ex I J P n (by omega) hP) ?_
            exact r_iret dX11_lineRead_154 rfl rfl rfl rfl
          · refine r_aload_n dX11_lineRead_131 rfl ?_
            refine r_getIv dX11_lineRead_132 flX11_222 sh_347 (by decide) rfl (uR_r (by decide) _) ?_
            refine r_bipush (v := 10) dX11_lineRead_135 (by decide) ?_
            refine r_ic_lt 149 dX11_lineRead_137 (by decide) (fun c137 => ?_) (fun c137 => ?_)
            · refine r_aload_n dX11_lineRead_149 rfl ?_
              refine r_iconst (v := 1) dX11_lineRead_150 (by decide) ?_
              refine r_cV1i dX11_lineRead_151 vlX11_235 sh_347 (Nat.le_of_ble_eq_true rfl) (wrong_r 1 E ex I J P n (by omega) hP) ?_
              exact r_iret dX11_lineRead_154 rfl rfl rfl rfl
            · exact absurd y2 c137
        · exact absurd (by decide) c14
    · refine r_aload_n dX11_lineRead_0 rfl ?_
      refine r_getIv dX11_lineRead_1 flX11_211 sh_347 (by decide) rfl (uR_r (by decide) _) ?_
      refine r_iconst (v := 1) dX11_lineRead_4 (by decide) ?_
      refine r_ic_ne 17 dX11_lineRead_5 (by decide) (fun c5 => ?_) (fun c5 => ?_)
      · exact absurd h1 c5
      · refine r_aload_n dX11_lineRead_8 rfl ?_
        refine r_getIv dX11_lineRead_9 flX11_222 sh_347 (by decide) rfl (uR_v (by decide) (show M 347 9 = 6 from h2)) ?_
        refine r_bipush (v := 6) dX11_lineRead_12 (by decide) ?_
        refine r_ic_le 23 dX11_lineRead_14 (by decide) (fun c14 => ?_) (fun c14 => ?_)
        · refine r_aload_n dX11_lineRead_23 rfl ?_
          refine r_getIv dX11_lineRead_24 flX11_222 sh_347 (by decide) rfl (uR_v (by decide) (show M 347 9 = 6 from h2)) ?_
          refine r_tsO 119 dX11_lineRead_27 (Or.inr (by decide)) (by decide) ?_
          refine r_aload_n dX11_lineRead_119 rfl ?_
          refine r_cV0v dX11_lineRead_120 vlX11_245 sh_347 (Nat.le_of_ble_eq_true rfl) (a5 E ex I J P n (by omega) hP) ?_
          refine r_aload_n dX11_lineRead_123 rfl ?_
          refine r_getIv dX11_lineRead_124 flX11_211 sh_347 (by decide) rfl (uR_r (by decide) _) ?_
          refine r_iconst (v := 1) dX11_lineRead_127 (by decide) ?_
          refine r_ic_ne 149 dX11_lineRead_128 (by decide) (fun c128 => ?_) (fun c128 => ?_)
          · refine r_aload_n dX11_lineRead_149 rfl ?_
            refine r_iconst (v := 1) dX11_lineRead_150 (by decide) ?_
            refine r_cV1i dX11_lineRead_151 vlX11_235 sh_347 (Nat.le_of_ble_eq_true rfl) (wrong_r 1 E ex I J P n (by omega) hP) ?_
            exact r_iret dX11_lineRead_154 rfl rfl rfl rfl
          · refine r_aload_n dX11_lineRead_131 rfl ?_
            refine r_getIv dX11_lineRead_132 flX11_222 sh_347 (by decide) rfl (uR_r (by decide) _) ?_
            refine r_bipush (v := 10) dX11_lineRead_135 (by decide) ?_
            refine r_ic_lt 149 dX11_lineRead_137 (by decide) (fun c137 => ?_) (fun c137 => ?_)
            · refine r_aload_n dX11_lineRead_149 rfl ?_
              refine r_iconst (v := 1) dX11_lineRead_150 (by decide) ?_
              refine r_cV1i dX11_lineRead_151 vlX11_235 sh_347 (Nat.le_of_ble_eq_true rfl) (wrong_r 1 E ex I J P n (by omega) hP) ?_
              exact r_iret dX11_lineRead_154 rfl rfl rfl rfl
            · refine r_aload_n dX11_lineRead_140 rfl ?_
              refine r_getIv dX11_lineRead_141 flX11_222 sh_347 (by decide) rfl (uR_r (by decide) _) ?_
              refine r_bipush (v := 12) dX11_lineRead_144 (by decide) ?_
              refine r_ic_le 155 dX11_lineRead_146 (by decide) (fun c146 => ?_) (fun c146 => ?_)
              · exact absurd y2 (Int32.not_lt.mpr c146)
              · refine r_aload_n dX11_lineRead_149 rfl ?_
                refine r_iconst (v := 1) dX11_lineRead_150 (by decide) ?_
                refine r_cV1i dX11_lineRead_151 vlX11_235 sh_347 (Nat.le_of_ble_eq_true rfl) (wrong_r 1 E ex I J P n (by omega) hP) ?_
                exact r_iret dX11_lineRead_154 rfl rfl rfl rfl
        · exact absurd (by decide) c14
  rcases hw1.2.2.2.2.2 l hl with ⟨t0, t1⟩ | ⟨t1, sx, ex, xx, tt1, tt2, tt3, -⟩
  case inr =>
    refine ⟨some (.int 0), _, some (.int 0), fR M1 3, tl_6 hk0 ((law_3 hl a4 y1 (by rw [tt3]; exact nI_nm1 (by have := hw1.1; omega))).p.le (by decide)) (tail_c0 _), ?_, Qe.m0 (a3.lf.tr (bad_N K1 M1 3).lf) ((bad_F a2 3).c (fun a k z => xu_ne (by omega)) (fun a k z => rfl)) (((bad_N K1 M1 3).gb hb1).c (fun a k z => xu_ne (by omega)))⟩
    refine rAt.run (h := 6) cqX11_lineRead (ls := [some (.ref 347), none, none]) rfl (by simp [lg_sl, Value.category]) ?_
    intro E ex I J P n hn hP
    refine r_aload_n dX11_lineRead_0 rfl ?_
    refine r_getIv dX11_lineRead_1 flX11_211 sh_347 (by decide) rfl (uR_r (by decide) _) ?_
    refine r_iconst (v := 1) dX11_lineRead_4 (by decide) ?_
    refine r_ic_ne 17 dX11_lineRead_5 (by decide) (fun c5 => ?_) (fun c5 => ?_)
    · exact absurd h1 c5
    · refine r_aload_n dX11_lineRead_8 rfl ?_
      refine r_getIv dX11_lineRead_9 flX11_222 sh_347 (by decide) rfl (uR_v (by decide) (show M 347 9 = 6 from h2)) ?_
      refine r_bipush (v := 6) dX11_lineRead_12 (by decide) ?_
      refine r_ic_le 23 dX11_lineRead_14 (by decide) (fun c14 => ?_) (fun c14 => ?_)
      · refine r_aload_n dX11_lineRead_23 rfl ?_
        refine r_getIv dX11_lineRead_24 flX11_222 sh_347 (by decide) rfl (uR_v (by decide) (show M 347 9 = 6 from h2)) ?_
        refine r_tsO 119 dX11_lineRead_27 (Or.inr (by decide)) (by decide) ?_
        refine r_aload_n dX11_lineRead_119 rfl ?_
        refine r_cV0v dX11_lineRead_120 vlX11_245 sh_347 (Nat.le_of_ble_eq_true rfl) (a5 E ex I J P n (by omega) hP) ?_
        refine r_aload_n dX11_lineRead_123 rfl ?_
        refine r_getIv dX11_lineRead_124 flX11_211 sh_347 (by decide) rfl (uR_r (by decide) _) ?_
        refine r_iconst (v := 1) dX11_lineRead_127 (by decide) ?_
        refine r_ic_ne 149 dX11_lineRead_128 (by decide) (fun c128 => ?_) (fun c128 => ?_)
        · exact absurd y2 c128
        · refine r_aload_n dX11_lineRead_131 rfl ?_
          refine r_getIv dX11_lineRead_132 flX11_222 sh_347 (by decide) rfl (uR_v (by decide) y3) ?_
          refine r_bipush (v := 10) dX11_lineRead_135 (by decide) ?_
          refine r_ic_lt 149 dX11_lineRead_137 (by decide) (fun c137 => ?_) (fun c137 => ?_)
          · exact absurd c137 (h10 l hl).2.1
          · refine r_aload_n dX11_lineRead_140 rfl ?_
            refine r_getIv dX11_lineRead_141 flX11_222 sh_347 (by decide) rfl (uR_v (by decide) y3) ?_
            refine r_bipush (v := 12) dX11_lineRead_144 (by decide) ?_
            refine r_ic_le 155 dX11_lineRead_146 (by decide) (fun c146 => ?_) (fun c146 => ?_)
            · refine r_iconst (v := 3) dX11_lineRead_155 (by decide) ?_
              refine r_aload_n dX11_lineRead_156 rfl ?_
              refine r_getIv dX11_lineRead_157 flX11_222 sh_347 (by decide) rfl (uR_v (by decide) y3) ?_
              refine r_iadd dX11_lineRead_160 ?_
              refine r_bipush (v := 10) dX11_lineRead_161 (by decide) ?_
              refine r_isub dX11_lineRead_163 ?_
              rw [(h10 l hl).1]
              refine r_istore_n2 dX11_lineRead_164 rfl ?_
              refine r_aload_n dX11_lineRead_165 rfl ?_
              refine r_getR dX11_lineRead_166 flX11_69 sh_347 (by decide) rfl (pf_347_36 hP) ?_
              refine r_iload_n dX11_lineRead_169 rfl ?_
              refine r_zalv dX11_lineRead_170 sh_366 (vp_in_nI (n := 3 + l) (by omega) (by decide)) ((uR_r (by decide) _).trans ((congrArg (M1 366) (nI_clamp (n := 3 + l) (by omega))).trans t1)) ?_
              refine r_if_eq 180 dX11_lineRead_171 (by decide) (fun c171 => ?_) (fun c171 => ?_)
              · exact absurd c171 (by decide)
              · refine r_aload_n dX11_lineRead_174 rfl ?_
                refine r_iconst (v := 3) dX11_lineRead_175 (by decide) ?_
                refine r_cV1i dX11_lineRead_176 vlX11_235 sh_347 (Nat.le_of_ble_eq_true rfl) (wrong_r 3 E ex I J P n (by omega) hP) ?_
                exact r_iret dX11_lineRead_179 rfl rfl rfl rfl
            · exact absurd (h10 l hl).2.2 c146
      · exact absurd (by decide) c14
  have t2 : jT s i1 p1 K1 (xu M1 366 (3 + l) 1) := a2.c (fun a k z => rfl) (fun a k z => xu_ne (by omega))
  obtain ⟨i2, p2, K2, M2, b1, b2, b3, b4, b5⟩ := adv_R t2
  have o2 := b2.2.2.1
  have t3 : jT s i2 p2 K2 (xu M2 367 (3 + l) (nI q)) := b2.c (fun a k z => rfl) (fun a k z => xu_ne (by omega))
  have eK2 : ∀ a k, ¬ a = 28 → K2 a k = K a k := fun a k z => (b3.1 a k z).trans (a3.1 a k z)
  have eM2 : ∀ a k, ¬ ((a = 347 ∧ 6 ≤ k ∧ k ≤ 10) ∨ (a = 366 ∧ k = 3 + l)) → M2 a k = M a k := fun a k z => (b3.2 a k (by omega)).trans ((xu_ne (by omega)).trans (a3.2 a k (by omega)))
  have m19 : M2 347 19 = nI q := (eM2 _ _ (by omega)).trans gw.2.2.2.1
  obtain ⟨r3, K3, r3', M3, c1, c2, c3, c4⟩ := read_R hl t3 gw.1 ((eK2 _ _ (by omega)).trans gw.2.1) ((eK2 _ _ (by omega)).trans gw.2.2.1) ((xu_ne (by omega)).trans m19) ((xu_ne (by omega)).trans ((eM2 _ _ (by omega)).trans gw.2.2.2.2.1))
  have eK3 : ∀ a k, ¬ (a = 28 ∨ a = 29 ∨ a = 30 ∨ (a = 507 ∧ (k = 5 ∨ k = 6)) ∨ (a = 508 ∧ q ≤ k) ∨ ((a = 509 ∨ a = 510) ∧ k = l)) → K3 a k = K a k := fun a k z => (c3.1 a k z).trans (eK2 a k (by omega))
  have eM3 : ∀ a k, ¬ ((a = 347 ∧ ((4 ≤ k ∧ k ≤ 11) ∨ k = 19 ∨ (44 ≤ k ∧ k ≤ 49))) ∨ ((369 ≤ a ∧ a ≤ 371) ∧ 64 + q ≤ k) ∨ a = 372 ∨ a = 373 ∨ ((366 ≤ a ∧ a ≤ 367) ∧ k = 3 + l)) → M3 a k = M a k := fun a k z => (c3.2 a k (by omega)).trans ((xu_ne (by omega)).trans (eM2 a k (by omega)))
  have hb3 : jB K3 := gb.c (fun a k z => eK3 a k (by omega))
  rcases c4 with ⟨f, y4, rfl, rfl, y5, y6⟩ | ⟨rfl, rfl, i3, p3, q3, x, d1, d2, d3, d4, d5, d6, d7, d8, d9, d10, d11, d12, d13, d14, d15⟩
  · have hf0 : ¬ f = 0 := by rcases y4 with rfl | rfl <;> decide
    refine ⟨some (.int 0), _, some (.int 0), xu M3 368 (3 + l) (M3 347 19), tl_6 hk0 (law_f hl hf0 a4 y1 t0 b4 c1) (tail_c0 _), ?_, Qe.m0 (LF.of fun a k z => (xu_ne (by omega)).trans (eM3 a k (by omega))) ⟨?_, ?_⟩ (hb3.c (fun a k z => (xu_ne (by omega)).trans ((xu_ne (by omega)).trans (xu_ne (by omega)))))⟩
    · refine rAt.run (h := 6) cqX11_lineRead (ls := [some (.ref 347), none, none]) rfl (by simp [lg_sl, Value.category]) ?_
      intro E ex I J P n hn hP
      refine r_aload_n dX11_lineRead_0 rfl ?_
      refine r_getIv dX11_lineRead_1 flX11_211 sh_347 (by decide) rfl (uR_r (by decide) _) ?_
      refine r_iconst (v := 1) dX11_lineRead_4 (by decide) ?_
      refine r_ic_ne 17 dX11_lineRead_5 (by decide) (fun c5 => ?_) (fun c5 => ?_)
      · exact absurd h1 c5
      · refine r_aload_n dX11_lineRead_8 rfl ?_
        refine r_getIv dX11_lineRead_9 flX11_222 sh_347 (by decide) rfl (uR_v (by decide) (show M 347 9 = 6 from h2)) ?_
        refine r_bipush (v := 6) dX11_lineRead_12 (by decide) ?_
        refine r_ic_le 23 dX11_lineRead_14 (by decide) (fun c14 => ?_) (fun c14 => ?_)
        · refine r_aload_n dX11_lineRead_23 rfl ?_
          refine r_getIv dX11_lineRead_24 flX11_222 sh_347 (by decide) rfl (uR_v (by decide) (show M 347 9 = 6 from h2)) ?_
          refine r_tsO 119 dX11_lineRead_27 (Or.inr (by decide)) (by decide) ?_
          refine r_aload_n dX11_lineRead_119 rfl ?_
          refine r_cV0v dX11_lineRead_120 vlX11_245 sh_347 (Nat.le_of_ble_eq_true rfl) (a5 E ex I J P n (by omega) hP) ?_
          refine r_aload_n dX11_lineRead_123 rfl ?_
          refine r_getIv dX11_lineRead_124 flX11_211 sh_347 (by decide) rfl (uR_r (by decide) _) ?_
          refine r_iconst (v := 1) dX11_lineRead_127 (by decide) ?_
          refine r_ic_ne 149 dX11_lineRead_128 (by decide) (fun c128 => ?_) (fun c128 => ?_)
          · exact absurd y2 c128
          · refine r_aload_n dX11_lineRead_131 rfl ?_
            refine r_getIv dX11_lineRead_132 flX11_222 sh_347 (by decide) rfl (uR_v (by decide) y3) ?_
            refine r_bipush (v := 10) dX11_lineRead_135 (by decide) ?_
            refine r_ic_lt 149 dX11_lineRead_137 (by decide) (fun c137 => ?_) (fun c137 => ?_)
            · exact absurd c137 (h10 l hl).2.1
            · refine r_aload_n dX11_lineRead_140 rfl ?_
              refine r_getIv dX11_lineRead_141 flX11_222 sh_347 (by decide) rfl (uR_v (by decide) y3) ?_
              refine r_bipush (v := 12) dX11_lineRead_144 (by decide) ?_
              refine r_ic_le 155 dX11_lineRead_146 (by decide) (fun c146 => ?_) (fun c146 => ?_)
              · refine r_iconst (v := 3) dX11_lineRead_155 (by decide) ?_
                refine r_aload_n dX11_lineRead_156 rfl ?_
                refine r_getIv dX11_lineRead_157 flX11_222 sh_347 (by decide) rfl (uR_v (by decide) y3) ?_
                refine r_iadd dX11_lineRead_160 ?_
                refine r_bipush (v := 10) dX11_lineRead_161 (by decide) ?_
                refine r_isub dX11_lineRead_163 ?_
                rw [(h10 l hl).1]
                refine r_istore_n2 dX11_lineRead_164 rfl ?_
                refine r_aload_n dX11_lineRead_165 rfl ?_
                refine r_getR dX11_lineRead_166 flX11_69 sh_347 (by decide) rfl (pf_347_36 hP) ?_
                refine r_iload_n dX11_lineRead_169 rfl ?_
                refine r_zalv dX11_lineRead_170 sh_366 (vp_in_nI (n := 3 + l) (by omega) (by decide)) ((uR_r (by decide) _).trans ((congrArg (M1 366) (nI_clamp (n := 3 + l) (by omega))).trans t1)) ?_
                refine r_if_eq 180 dX11_lineRead_171 (by decide) (fun c171 => ?_) (fun c171 => ?_)
                · refine r_aload_n dX11_lineRead_180 rfl ?_
                  refine r_getR dX11_lineRead_181 flX11_69 sh_347 (by decide) rfl (pf_347_36 hP) ?_
                  refine r_iload_n dX11_lineRead_184 rfl ?_
                  refine r_iconst (v := 1) dX11_lineRead_185 (by decide) ?_
                  refine r_zasv dX11_lineRead_186 sh_366 (vp_in_nI (n := 3 + l) (by omega) (by decide)) ((congrArg (fun z => xu _ _ z _) (nI_clamp (n := 3 + l) (by omega))).trans (uR_x (by decide) _ _)) ?_
                  refine r_aload_n dX11_lineRead_187 rfl ?_
                  refine r_cV0v dX11_lineRead_188 vlX11_245 sh_347 (Nat.le_of_ble_eq_true rfl) (b5 E ex I J P n (by omega) hP) ?_
                  refine r_aload_n dX11_lineRead_191 rfl ?_
                  refine r_getR dX11_lineRead_192 flX11_72 sh_347 (by decide) rfl (pf_347_37 hP) ?_
                  refine r_iload_n dX11_lineRead_195 rfl ?_
                  refine r_aload_n dX11_lineRead_196 rfl ?_
                  refine r_getIv dX11_lineRead_197 flX11_264 sh_347 (by decide) rfl (uR_v (by decide) m19) ?_
                  refine r_iasv dX11_lineRead_200 sh_367 (vp_in_nI (n := 3 + l) (by omega) (by decide)) ((congrArg (fun z => xu _ _ z _) (nI_clamp (n := 3 + l) (by omega))).trans (uR_x (by decide) _ _)) ?_
                  refine r_aload_n dX11_lineRead_201 rfl ?_
                  refine r_cV0i dX11_lineRead_202 vlX11_318 sh_347 (Nat.le_of_ble_eq_true rfl) (c2 E ex I J P n (by omega) hP) ?_
                  refine r_istore_n1 dX11_lineRead_205 rfl ?_
                  refine r_aload_n dX11_lineRead_206 rfl ?_
                  refine r_getR dX11_lineRead_207 flX11_75 sh_347 (by decide) rfl (pf_347_38 hP) ?_
                  refine r_iload_n dX11_lineRead_210 rfl ?_
                  refine r_aload_n dX11_lineRead_211 rfl ?_
                  refine r_getIv dX11_lineRead_212 flX11_264 sh_347 (by decide) rfl (uR_v (by decide) rfl) ?_
                  refine r_iasv dX11_lineRead_215 sh_368 (vp_in_nI (n := 3 + l) (by omega) (by decide)) ((congrArg (fun z => xu _ _ z _) (nI_clamp (n := 3 + l) (by omega))).trans (uR_x (by decide) _ _)) ?_
                  refine r_iload_n dX11_lineRead_216 rfl ?_
                  refine r_if_ne 222 dX11_lineRead_217 (by decide) (fun c217 => ?_) (fun c217 => ?_)
                  · exact absurd c217 (by decide)
                  · refine r_iconst (v := 0) dX11_lineRead_220 (by decide) ?_
                    exact r_iret dX11_lineRead_221 rfl rfl rfl rfl
                · exact absurd rfl c171
              · exact absurd (h10 l hl).2.2 c146
        · exact absurd (by decide) c14
    · exact ((xu_ne (by omega)).trans ((xu_ne (by omega)).trans (xu_s _ _ _ _))).trans ((xu_ne (by omega)).trans y5).symm
    · exact ((xu_ne (by omega)).trans (xu_s _ _ _ _)).trans ((xu_ne (by omega)).trans y6).symm
  have eM4 : ∀ a k, ¬ ((a = 347 ∧ ((4 ≤ k ∧ k ≤ 11) ∨ k = 19 ∨ (44 ≤ k ∧ k ≤ 49))) ∨ ((369 ≤ a ∧ a ≤ 371) ∧ 64 + q ≤ k) ∨ a = 372 ∨ a = 373 ∨ ((366 ≤ a ∧ a ≤ 368) ∧ k = 3 + l)) → (xu M3 368 (3 + l) (nI q3)) a k = M a k := fun a k z => (xu_ne (by omega)).trans (eM3 a k (by omega))
  have hf4 : jF K3 (xu M3 368 (3 + l) (nI q3)) := by
    refine ⟨(eK3 _ _ (by omega)).trans (gf.1.trans ?_), (eK3 _ _ (by omega)).trans (gf.2.trans ?_)⟩
    · exact ((xu_ne (by omega)).trans (d14.trans ((xu_ne (by omega)).trans (eM2 _ _ (by omega))))).symm
    · exact ((xu_ne (by omega)).trans (d15.trans ((xu_ne (by omega)).trans (eM2 _ _ (by omega))))).symm
  have hw4 : jW q3 K3 (xu M3 368 (3 + l) (nI q3)) := by
    refine ⟨d4, d7, d8, (xu_ne (by omega)).trans d9, (xu_ne (by omega)).trans d10, fun l2 hl2 => ?_⟩
    by_cases el : l2 = l
    · subst el
      refine Or.inr ⟨?_, q, q3, x, d6, Nat.le_refl _, d12, d13, ?_, xu_s _ _ _ _, d11.c (fun k _ _ => rfl) (fun a k _ _ _ => xu_ne (by omega))⟩
      · exact (xu_ne (by omega)).trans ((c3.2 _ _ (by omega)).trans ((xu_ne (by omega)).trans ((b3.2 _ _ (by omega)).trans (xu_s _ _ _ _))))
      · exact (xu_ne (by omega)).trans ((c3.2 _ _ (by omega)).trans (xu_s _ _ _ _))
    · exact (gw.2.2.2.2.2 l2 hl2).c d5 (fun a k z => eK3 a k (by omega)) (fun a k z => eM4 a k (by omega))
  have hR : Rl s i3 p3 np nd nc q3 ln K3 (xu M3 368 (3 + l) (nI q3)) := ⟨d2.c (fun a k z => rfl) (fun a k z => xu_ne (by omega)), hf4, gp.c (fun a k z => eK3 a k (by omega)) (fun a k z => eM4 a k (by omega)), gd.c (fun a k z => eK3 a k (by omega)) (fun a k z => eM4 a k (by omega)), gx.c (fun a k z => eK3 a k (by omega)) (fun a k z => eM4 a k (by omega)), go.c (fun a k z => eK3 a k (by omega)) (fun a k z => eM4 a k (by omega)), hw4, hb3⟩
  obtain ⟨r, K', r', M', g1, g2, g3⟩ := tail_J (x2 := some (.int (nI (3 + l)))) hR (show p < p3 by omega) (LF.of fun a k z => eM4 a k (by omega))
  refine ⟨r, K', r', M', tl_6 hk0 (law_t (f := 0) hl a4 y1 t0 b4 c1) g1, ?_, g3⟩
  refine rAt.run (h := 6) cqX11_lineRead (ls := [some (.ref 347), none, none]) rfl (by simp [lg_sl, Value.category]) ?_
  intro E ex I J P n hn hP
  refine r_aload_n dX11_lineRead_0 rfl ?_
  refine r_getIv dX11_lineRead_1 flX11_211 sh_347 (by decide) rfl (uR_r (by decide) _) ?_
  refine r_iconst (v := 1) dX11_lineRead_4 (by decide) ?_
  refine r_ic_ne 17 dX11_lineRead_5 (by decide) (fun c5 => ?_) (fun c5 => ?_)
  · exact absurd h1 c5
  · refine r_aload_n dX11_lineRead_8 rfl ?_
    refine r_getIv dX11_lineRead_9 flX11_222 sh_347 (by decide) rfl (uR_v (by decide) (show M 347 9 = 6 from h2)) ?_
    refine r_bipush (v := 6) dX11_lineRead_12 (by decide) ?_
    refine r_ic_le 23 dX11_lineRead_14 (by decide) (fun c14 => ?_) (fun c14 => ?_)
    · refine r_aload_n dX11_lineRead_23 rfl ?_
      refine r_getIv dX11_lineRead_24 flX11_222 sh_347 (by decide) rfl (uR_v (by decide) (show M 347 9 = 6 from h2)) ?_
      refine r_tsO 119 dX11_lineRead_27 (Or.inr (by decide)) (by decide) ?_
      refine r_aload_n dX11_lineRead_119 rfl ?_
      refine r_cV0v dX11_lineRead_120 vlX11_245 sh_347 (Nat.le_of_ble_eq_true rfl) (a5 E ex I J P n (by omega) hP) ?_
      refine r_aload_n dX11_lineRead_123 rfl ?_
      refine r_getIv dX11_lineRead_124 flX11_211 sh_347 (by decide) rfl (uR_r (by decide) _) ?_
      refine r_iconst (v := 1) dX11_lineRead_127 (by decide) ?_
      refine r_ic_ne 149 dX11_lineRead_128 (by decide) (fun c128 => ?_) (fun c128 => ?_)
      · exact absurd y2 c128
      · refine r_aload_n dX11_lineRead_131 rfl ?_
        refine r_getIv dX11_lineRead_132 flX11_222 sh_347 (by decide) rfl (uR_v (by decide) y3) ?_
        refine r_bipush (v := 10) dX11_lineRead_135 (by decide) ?_
        refine r_ic_lt 149 dX11_lineRead_137 (by decide) (fun c137 => ?_) (fun c137 => ?_)
        · exact absurd c137 (h10 l hl).2.1
        · refine r_aload_n dX11_lineRead_140 rfl ?_
          refine r_getIv dX11_lineRead_141 flX11_222 sh_347 (by decide) rfl (uR_v (by decide) y3) ?_
          refine r_bipush (v := 12) dX11_lineRead_144 (by decide) ?_
          refine r_ic_le 155 dX11_lineRead_146 (by decide) (fun c146 => ?_) (fun c146 => ?_)
          · refine r_iconst (v := 3) dX11_lineRead_155 (by decide) ?_
            refine r_aload_n dX11_lineRead_156 rfl ?_
            refine r_getIv dX11_lineRead_157 flX11_222 sh_347 (by decide) rfl (uR_v (by decide) y3) ?_
            refine r_iadd dX11_lineRead_160 ?_
            refine r_bipush (v := 10) dX11_lineRead_161 (by decide) ?_
            refine r_isub dX11_lineRead_163 ?_
            rw [(h10 l hl).1]
            refine r_istore_n2 dX11_lineRead_164 rfl ?_
            refine r_aload_n dX11_lineRead_165 rfl ?_
            refine r_getR dX11_lineRead_166 flX11_69 sh_347 (by decide) rfl (pf_347_36 hP) ?_
            refine r_iload_n dX11_lineRead_169 rfl ?_
            refine r_zalv dX11_lineRead_170 sh_366 (vp_in_nI (n := 3 + l) (by omega) (by decide)) ((uR_r (by decide) _).trans ((congrArg (M1 366) (nI_clamp (n := 3 + l) (by omega))).trans t1)) ?_
            refine r_if_eq 180 dX11_lineRead_171 (by decide) (fun c171 => ?_) (fun c171 => ?_)
            · refine r_aload_n dX11_lineRead_180 rfl ?_
              refine r_getR dX11_lineRead_181 flX11_69 sh_347 (by decide) rfl (pf_347_36 hP) ?_
              refine r_iload_n dX11_lineRead_184 rfl ?_
              refine r_iconst (v := 1) dX11_lineRead_185 (by decide) ?_
              refine r_zasv dX11_lineRead_186 sh_366 (vp_in_nI (n := 3 + l) (by omega) (by decide)) ((congrArg (fun z => xu _ _ z _) (nI_clamp (n := 3 + l) (by omega))).trans (uR_x (by decide) _ _)) ?_
              refine r_aload_n dX11_lineRead_187 rfl ?_
              refine r_cV0v dX11_lineRead_188 vlX11_245 sh_347 (Nat.le_of_ble_eq_true rfl) (b5 E ex I J P n (by omega) hP) ?_
              refine r_aload_n dX11_lineRead_191 rfl ?_
              refine r_getR dX11_lineRead_192 flX11_72 sh_347 (by decide) rfl (pf_347_37 hP) ?_
              refine r_iload_n dX11_lineRead_195 rfl ?_
              refine r_aload_n dX11_lineRead_196 rfl ?_
              refine r_getIv dX11_lineRead_197 flX11_264 sh_347 (by decide) rfl (uR_v (by decide) m19) ?_
              refine r_iasv dX11_lineRead_200 sh_367 (vp_in_nI (n := 3 + l) (by omega) (by decide)) ((congrArg (fun z => xu _ _ z _) (nI_clamp (n := 3 + l) (by omega))).trans (uR_x (by decide) _ _)) ?_
              refine r_aload_n dX11_lineRead_201 rfl ?_
              refine r_cV0i dX11_lineRead_202 vlX11_318 sh_347 (Nat.le_of_ble_eq_true rfl) (c2 E ex I J P n (by omega) hP) ?_
              refine r_istore_n1 dX11_lineRead_205 rfl ?_
              refine r_aload_n dX11_lineRead_206 rfl ?_
              refine r_getR dX11_lineRead_207 flX11_75 sh_347 (by decide) rfl (pf_347_38 hP) ?_
              refine r_iload_n dX11_lineRead_210 rfl ?_
              refine r_aload_n dX11_lineRead_211 rfl ?_
              refine r_getIv dX11_lineRead_212 flX11_264 sh_347 (by decide) rfl (uR_v (by decide) d9) ?_
              refine r_iasv dX11_lineRead_215 sh_368 (vp_in_nI (n := 3 + l) (by omega) (by decide)) ((congrArg (fun z => xu _ _ z _) (nI_clamp (n := 3 + l) (by omega))).trans (uR_x (by decide) _ _)) ?_
              exact g2 E ex I J P n hn hP
            · exact absurd rfl c171
          · exact absurd (h10 l hl).2.2 c146
    · exact absurd (by decide) c14
theorem line_R {s i p np nd nc q ln : Nat} {K M : Nat → Nat → Int32} (h : Rl s i p np nd nc q ln K M) : ∃ r K' r' M', cRunP 7 yX7_tellLine (fun _ => [.ref 2]) K r K' ∧ rRun 7 yX11_lineRead [.ref 347] M r' M' ∧ (Qe M (fun K' M' => ∃ i' p' np' nd' nc' q', p < p' ∧ Rl s i' p' np' nd' nc' q' (ln + 1) K' M')) r K' r' M' := by
  rcases h.1.tk.line with ⟨m, hm, y1, y2, y3⟩ | ⟨y1, y2⟩
  case inr =>
    exact ⟨some (.int 0), fC K 1, some (.int 0), fR M 1, (tl_o y1).p.le (by decide), fun E ex I J P n hn => rl_o y2 E ex I J P n (by omega), Qe.bad h.1 (LF.rf M) h.2.2.2.2.2.2.2 1⟩
  have n38 : ¬ K 28 4 = 38 := by
    rw [y1]
    intro e
    have := (nI_eq (a := m) (b := 38) (by omega) (by decide)).mp e
    omega
  by_cases e0 : m = 0
  · subst e0
    obtain ⟨r1, K1, r1', M1, g1, g2, g3⟩ := pers_R h n38
    obtain ⟨v, rfl, rfl, r, K', r', M', g4, g5, g6⟩ := tail_Q (x2 := none) g3
    exact ⟨r, K', r', M', tl_0 y1 g1.p g4, rl_0 y2 y3 g2 g5, g6⟩
  by_cases e1 : m = 1
  · subst e1
    obtain ⟨r1, K1, r1', M1, g1, g2, g3⟩ := debt_R h n38
    obtain ⟨v, rfl, rfl, r, K', r', M', g4, g5, g6⟩ := tail_Q (x2 := none) g3
    exact ⟨r, K', r', M', tl_1 y1 g1.p g4, rl_1 y2 y3 g2 g5, g6⟩
  by_cases e2 : m = 2
  · subst e2
    obtain ⟨r1, K1, r1', M1, g1, g2, g3⟩ := twist_R h n38
    obtain ⟨v, rfl, rfl, r, K', r', M', g4, g5, g6⟩ := tail_Q (x2 := none) g3
    exact ⟨r, K', r', M', tl_2 y1 g1.p g4, rl_2 y2 y3 g2 g5, g6⟩
  by_cases e3 : m = 3
  · subst e3
    obtain ⟨r1, K1, r1', M1, g1, g2, g3⟩ := cross_R h n38
    obtain ⟨v, rfl, rfl, r, K', r', M', g4, g5, g6⟩ := tail_Q (x2 := none) g3
    exact ⟨r, K', r', M', tl_3 y1 g1.p g4, rl_3 y2 y3 g2 g5, g6⟩
  by_cases e4 : m = 4
  · subst e4
    obtain ⟨r1, K1, r1', M1, g1, g2, g3⟩ := plank_R h n38
    obtain ⟨v, rfl, rfl, r, K', r', M', g4, g5, g6⟩ := tail_Q (x2 := none) g3
    exact ⟨r, K', r', M', tl_4 y1 g1.p g4, rl_4 y2 y3 g2 g5, g6⟩
  by_cases e5 : m = 5
  · subst e5
    obtain ⟨r1, K1, r1', M1, g1, g2, g3⟩ := seed_R h n38
    obtain ⟨v, rfl, rfl, r, K', r', M', g4, g5, g6⟩ := tail_Q (x2 := none) g3
    exact ⟨r, K', r', M', tl_5 y1 g1.p g4, rl_5 y2 y3 g2 g5, g6⟩
  have e6 : m = 6 := by omega
  subst e6
  exact lawl_R h y1 y2 y3
