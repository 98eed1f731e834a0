/-! the reference: law, count, strike -/
theorem isIn3 {k : Nat} (h : k < 3) : ¬ nI k < 0 ∧ ¬ 2 < nI k := ⟨nI_pos (by omega), nI_nlt (a := 2) (b := k) (by omega) (by omega)⟩
set_option maxHeartbeats 2000000 in
theorem k_rlaw {E : xCl} {ex : Bool} {I I0 V : Nat → Nat → Int32} {e : Int32} {J : Nat → Nat → Int64} {P : Nat → Nat → Nat} (hP : Pok P) (hI : xu I 347 2 0 = I0)  {n : Nat} (hv : Vok V n) {L : Nat → (Nat → Int64) → Int64} (hL : LwR I0 L) (h7 : L7 L) {k : Nat} (hk3 : k < 3) (s : Int32) (d : Nat) : ∃ e' J', xEx E ex (d + 5) yX11_law [.ref 347, .int (nI k), .int s] (SH, wR (wE I e) 0 V, J, P) (some (.long (if sTh V s then L k (sNm V s (sTwo V s)) else -9223372036854775808))) (SH, wR (wE I0 e') 0 V, J', P) ∧ JokR J J' := by
  refine QR.use (F := fun z => wR z 0 V) (I := I0) (x_enterq (d := d + 4) cqX11_law [some (.ref 347), some (.int (nI k)), some (.int s), none, none] rfl (by simp [lg_sl, Value.category]) ?_)
  rcases hL.w hk3 with ⟨h366, hL0⟩ | ⟨h366, s2, e2, hs, he, hse, he2, hkk, hall⟩
  · refine r_aload_n dX11_law_0 rfl ?_
    refine r_iconst (v := 0) dX11_law_1 (by decide) ?_
    refine r_putIv dX11_law_2 flX11_193 ⟨_, _, _, rfl, Or.inl rfl⟩ sh_347 (by decide) rfl rfl rfl ((wR_xo _ _ _ (by decide) _ _).trans (congrArg (fun z => wR z _ _) ((wE_c _ _ _ (by decide)).trans (congrArg (fun z => wE z _) hI)))) ?_
    refine r_iload_n dX11_law_5 rfl ?_
    refine r_iconst (v := 0) dX11_law_6 (by decide) ?_
    refine r_iconst (v := 2) dX11_law_7 (by decide) ?_
    refine r_cS3i dX11_law_8 slX11_238 (Nat.le_of_ble_eq_true rfl) (k_isIn_t (isIn3 hk3) (d + 3)) ?_
    refine r_if_eq 40 dX11_law_11 (by decide) (fun c11 => ?_) (fun c11 => ?_)
    · exact absurd c11 (by decide)
    · refine r_aload_n dX11_law_14 rfl ?_
      refine r_getR dX11_law_15 flX11_69 sh_347 (by decide) rfl (pf_347_36 hP) ?_
      refine r_iload_n dX11_law_18 rfl ?_
      refine r_zalv dX11_law_19 sh_366 (vp_in_nI (by omega) (by omega)) ((wR_o _ _ _ (by decide) _).trans ((wE_o _ _ (by decide) _).trans ((congrArg (I0 366) (nI_clamp (by omega))).trans h366))) ?_
      refine r_if_eq 40 dX11_law_20 (by decide) (fun c20 => ?_) (fun c20 => ?_)
      · refine r_ldc2_w dX11_law_40 kcX11_468 ?_
        exact r_lretq dX11_law_43 rfl (by rw [show (if sTh V s then L k (sNm V s (sTwo V s)) else -9223372036854775808) = -9223372036854775808 from by split; exact hL0 _ (Nok_m _ _ _); rfl]; exact QR.mk (F := fun z => wR z 0 V) (JokR.rf J))
      · exact absurd rfl c20
  · obtain ⟨hLa, hLb⟩ := hall (wN J 363 (sNm V s (sTwo V s)) 374) (wN J 363 (sNm V s (sTwo V s)) 375) (Nok_w J (Nok_m _ _ _))
    have hN7 := h7 k (wN J 363 (sNm V s (sTwo V s)) 374) (sNm V s (sTwo V s)) (fun q hq => wN_at J 363 _ q hq)
    refine r_aload_n dX11_law_0 rfl ?_
    refine r_iconst (v := 0) dX11_law_1 (by decide) ?_
    refine r_putIv dX11_law_2 flX11_193 ⟨_, _, _, rfl, Or.inl rfl⟩ sh_347 (by decide) rfl rfl rfl ((wR_xo _ _ _ (by decide) _ _).trans (congrArg (fun z => wR z _ _) ((wE_c _ _ _ (by decide)).trans (congrArg (fun z => wE z _) hI)))) ?_
    refine r_iload_n dX11_law_5 rfl ?_
    refine r_iconst (v := 0) dX11_law_6 (by decide) ?_
    refine r_iconst (v := 2) dX11_law_7 (by decide) ?_
    refine r_cS3i dX11_law_8 slX11_238 (Nat.le_of_ble_eq_true rfl) (k_isIn_t (isIn3 hk3) (d + 3)) ?_
    refine r_if_eq 40 dX11_law_11 (by decide) (fun c11 => ?_) (fun c11 => ?_)
    · exact absurd c11 (by decide)
    · refine r_aload_n dX11_law_14 rfl ?_
      refine r_getR dX11_law_15 flX11_69 sh_347 (by decide) rfl (pf_347_36 hP) ?_
      refine r_iload_n dX11_law_18 rfl ?_
      refine r_zalv dX11_law_19 sh_366 (vp_in_nI (by omega) (by omega)) ((wR_o _ _ _ (by decide) _).trans ((wE_o _ _ (by decide) _).trans ((congrArg (I0 366) (nI_clamp (by omega))).trans h366))) ?_
      refine r_if_eq 40 dX11_law_20 (by decide) (fun c20 => ?_) (fun c20 => ?_)
      · exact absurd c20 (by decide)
      · refine r_aload_n dX11_law_23 rfl ?_
        refine r_iload_n dX11_law_24 rfl ?_
        by_cases h25 : sSt V s
        · refine r_cV1i dX11_law_25 vlX11_465 sh_347 (Nat.le_of_ble_eq_true rfl) (k_rStr_t hP hv h25 (d + 3)) ?_
          refine r_if_eq 40 dX11_law_28 (by decide) (fun c28 => ?_) (fun c28 => ?_)
          · exact absurd c28 (by decide)
          · refine r_aload_n dX11_law_31 rfl ?_
            refine r_iconst (v := 0) dX11_law_32 (by decide) ?_
            refine r_iload_n dX11_law_33 rfl ?_
            by_cases h34 : V 9 s.toNatClampNeg = 0
            · refine r_cV2i dX11_law_34 vlX11_418 sh_347 (Nat.le_of_ble_eq_true rfl) (k_rTh0_t hP (vin12 h25.1 h25.2.2) h34 (d + 3)) ?_
              refine r_if_ne 44 dX11_law_37 (by decide) (fun c37 => ?_) (fun c37 => ?_)
              · refine r_aload_n dX11_law_44 rfl ?_
                refine r_iconst (v := 0) dX11_law_45 (by decide) ?_
                refine r_iload_n dX11_law_46 rfl ?_
                refine r_iconst (v := 0) dX11_law_47 (by decide) ?_
                refine r_cV3v dX11_law_48 vlX11_431 sh_347 (Nat.le_of_ble_eq_true rfl) (k_layN0 (b := 0) hP (by decide) hv (vin12 h25.1 h25.2.2) (d + 1)) ?_
                refine r_aload_n dX11_law_51 rfl ?_
                refine r_iload_n dX11_law_52 rfl ?_
                have z53 := k_lawOf (E := E) (ex := ex) (I := wR I0 0 V) (e := e) (J := wN J 363 (sNm V s (sTwo V s))) hP hk3 (s := s2) (e2 := e2) (by rw [wR_law I0 0 V 367 (by decide) (by decide)]; exact hs) (by rw [wR_law I0 0 V 368 (by decide) (by decide)]; exact he) hse he2 (by rw [wR_law I0 0 V 369 (by decide) (by decide), wR_law I0 0 V 370 (by decide) (by decide), wR_law I0 0 V 371 (by decide) (by decide)]; exact hkk) (d + 1)
                rw [wR_law I0 0 V 369 (by decide) (by decide), wR_law I0 0 V 370 (by decide) (by decide), wR_law I0 0 V 371 (by decide) (by decide), wRE, wRE] at z53
                refine r_cV1l dX11_law_53 vlX11_428 sh_347 (Nat.le_of_ble_eq_true rfl) z53 ?_
                refine r_lstore_n3 dX11_law_56 rfl ?_
                refine r_aload_n dX11_law_57 rfl ?_
                refine r_getIv dX11_law_58 flX11_371 sh_347 (by decide) rfl ((wR_o _ _ _ (by decide) _).trans (wE_e _ _)) ?_
                refine r_if_eq 70 dX11_law_61 (by decide) (fun c61 => ?_) (fun c61 => ?_)
                · refine r_lload_n dX11_law_70 rfl ?_
                  exact r_lretq dX11_law_71 rfl (by rw [if_pos (show sTh V s from ⟨h25, h34⟩), if_pos c61, (hLa c61).1, hN7]; exact QR.mk (F := fun z => wR z 0 V) ((JokR.n J _).tr (JokR.v _ _)))
                · refine r_ldc2_w dX11_law_64 kcX11_468 ?_
                  refine r_goto 71 dX11_law_67 (by decide) ?_
                  exact r_lretq dX11_law_71 rfl (by rw [if_pos (show sTh V s from ⟨h25, h34⟩), ← hN7, hLb c61]; exact QR.mk (F := fun z => wR z 0 V) ((JokR.n J _).tr (JokR.v _ _)))
              · exact absurd c37 (by decide)
            · refine r_cV2i dX11_law_34 vlX11_418 sh_347 (Nat.le_of_ble_eq_true rfl) (k_rTh0_f hP (vin12 h25.1 h25.2.2) h34 (d + 3)) ?_
              refine r_if_ne 44 dX11_law_37 (by decide) (fun c37 => ?_) (fun c37 => ?_)
              · exact absurd c37 (by decide)
              · refine r_ldc2_w dX11_law_40 kcX11_468 ?_
                exact r_lretq dX11_law_43 rfl (by rw [if_neg (fun z => h34 z.2)]; exact QR.mk (F := fun z => wR z 0 V) (JokR.rf J))
        · refine r_cV1i dX11_law_25 vlX11_465 sh_347 (Nat.le_of_ble_eq_true rfl) (k_rStr_f hP hv h25 (d + 3)) ?_
          refine r_if_eq 40 dX11_law_28 (by decide) (fun c28 => ?_) (fun c28 => ?_)
          · refine r_ldc2_w dX11_law_40 kcX11_468 ?_
            exact r_lretq dX11_law_43 rfl (by rw [if_neg (fun z => h25 z.1)]; exact QR.mk (F := fun z => wR z 0 V) (JokR.rf J))
          · exact absurd c28 (by decide)
set_option maxHeartbeats 1000000 in
theorem k_rlaw_n {E : xCl} {ex : Bool} {I I0 V : Nat → Nat → Int32} {e : Int32} {J : Nat → Nat → Int64} {P : Nat → Nat → Nat} (hP : Pok P) (hI : xu I 347 2 0 = I0) {w s : Int32} (h : ¬ (¬ w < 0 ∧ ¬ 2 < w)) (d : Nat) : xEx E ex (d + 2) yX11_law [.ref 347, .int w, .int s] (SH, wR (wE I e) 0 V, J, P) (some (.long (-9223372036854775808))) (SH, wR (wE I0 e) 0 V, J, P) := by
  refine x_enter cqX11_law [some (.ref 347), some (.int w), some (.int s), none, none] rfl (by simp [lg_sl, Value.category]) ?_
  refine r_aload_n dX11_law_0 rfl ?_
  refine r_iconst (v := 0) dX11_law_1 (by decide) ?_
  refine r_putIv dX11_law_2 flX11_193 ⟨_, _, _, rfl, Or.inl rfl⟩ sh_347 (by decide) rfl rfl rfl ((wR_xo _ _ _ (by decide) _ _).trans (congrArg (fun z => wR z _ _) ((wE_c _ _ _ (by decide)).trans (congrArg (fun z => wE z _) hI)))) ?_
  refine r_iload_n dX11_law_5 rfl ?_
  refine r_iconst (v := 0) dX11_law_6 (by decide) ?_
  refine r_iconst (v := 2) dX11_law_7 (by decide) ?_
  refine r_cS3i dX11_law_8 slX11_238 (Nat.le_of_ble_eq_true rfl) (k_isIn_f h d) ?_
  refine r_if_eq 40 dX11_law_11 (by decide) (fun c11 => ?_) (fun c11 => ?_)
  · refine r_ldc2_w dX11_law_40 kcX11_468 ?_
    exact r_lret dX11_law_43 rfl rfl rfl
  · exact absurd c11 (by decide)
set_option maxHeartbeats 1000000 in
theorem l_manyHow {E : xCl} {ex : Bool} {I V : Nat → Nat → Int32} {e : Int32} {J : Nat → Nat → Int64} {P : Nat → Nat → Nat} (hP : Pok P) {n : Nat} (hv : Vok V n) (w : Int32) (d : Nat) : ∀ j, j ≤ n → xR (xEx E ex (d + 0)) ex none yX11_manyHow cX11_manyHow (some .int) 4 [some (.ref 347), some (.int w), some (.int (sCnt V w j)), some (.int (nI j))] [] (SH, wR (wE I e) 0 V, J, P) (xEq (some (.int (sCnt V w n))) (SH, wR (wE I e) 0 V, J, P)) := by
  refine r_for (fun j => xR (xEx E ex (d + 0)) ex none yX11_manyHow cX11_manyHow (some .int) 4 [some (.ref 347), some (.int w), some (.int (sCnt V w j)), some (.int (nI j))] [] (SH, wR (wE I e) 0 V, J, P) (xEq (some (.int (sCnt V w n))) (SH, wR (wE I e) 0 V, J, P))) _ ?_ ?_
  · intro j hj ih
    refine r_iload_n dX11_manyHow_4 rfl ?_
    refine r_aload_n dX11_manyHow_5 rfl ?_
    refine r_getR dX11_manyHow_6 flX11_106 sh_347 (by decide) rfl (pf_347_55 hP) ?_
    refine r_iconst (v := 0) dX11_manyHow_9 (by decide) ?_
    refine r_ialv dX11_manyHow_10 sh_378 ix2_0 (rS13_0 _ _) ?_
    refine r_ic_ge 38 dX11_manyHow_11 (by decide) (fun c11 => ?_) (fun c11 => ?_)
    · exact absurd c11 (hv.g hj)
    · refine r_iload_n dX11_manyHow_14 rfl ?_
      refine r_aload_n dX11_manyHow_15 rfl ?_
      refine r_getR dX11_manyHow_16 flX11_127 sh_347 (by decide) rfl (pf_347_62 hP) ?_
      refine r_iload_n dX11_manyHow_19 rfl ?_
      refine r_ialv dX11_manyHow_20 sh_385 (iz12 (hv.i hj)) ((rZ9 _ _ (hv.i hj)).trans (congrArg (V 9) (hv.c hj))) ?_
      refine r_iload_n dX11_manyHow_21 rfl ?_
      refine r_ic_ne 29 dX11_manyHow_22 (by decide) (fun c22 => ?_) (fun c22 => ?_)
      · refine r_iconst (v := 0) dX11_manyHow_29 (by decide) ?_
        refine r_iadd dX11_manyHow_30 ?_
        refine r_istore_n2 dX11_manyHow_31 rfl ?_
        refine r_iinc3 (v := 1) dX11_manyHow_32 (by decide) rfl ?_
        refine r_goto 4 dX11_manyHow_35 (by decide) ?_
        rw [nI_1]; rw [sCnt, if_neg c22] at ih; rw [Int32.add_zero]; exact ih
      · refine r_iconst (v := 1) dX11_manyHow_25 (by decide) ?_
        refine r_goto 30 dX11_manyHow_26 (by decide) ?_
        refine r_iadd dX11_manyHow_30 ?_
        refine r_istore_n2 dX11_manyHow_31 rfl ?_
        refine r_iinc3 (v := 1) dX11_manyHow_32 (by decide) rfl ?_
        refine r_goto 4 dX11_manyHow_35 (by decide) ?_
        rw [nI_1]; rw [sCnt, if_pos c22] at ih; exact ih
  · refine r_iload_n dX11_manyHow_4 rfl ?_
    refine r_aload_n dX11_manyHow_5 rfl ?_
    refine r_getR dX11_manyHow_6 flX11_106 sh_347 (by decide) rfl (pf_347_55 hP) ?_
    refine r_iconst (v := 0) dX11_manyHow_9 (by decide) ?_
    refine r_ialv dX11_manyHow_10 sh_378 ix2_0 (rS13_0 _ _) ?_
    refine r_ic_ge 38 dX11_manyHow_11 (by decide) (fun c11 => ?_) (fun c11 => ?_)
    · refine r_iload_n dX11_manyHow_38 rfl ?_
      exact r_iret dX11_manyHow_39 rfl rfl rfl rfl
    · exact absurd hv.l c11
set_option maxHeartbeats 1000000 in
theorem k_manyHow {E : xCl} {ex : Bool} {I V : Nat → Nat → Int32} {e : Int32} {J : Nat → Nat → Int64} {P : Nat → Nat → Nat} (hP : Pok P) {n : Nat} (hv : Vok V n) (w : Int32) (d : Nat) : xEx E ex (d + 1) yX11_manyHow [.ref 347, .int w] (SH, wR (wE I e) 0 V, J, P) (some (.int (sCnt V w n))) (SH, wR (wE I e) 0 V, J, P) := by
  refine x_enter cqX11_manyHow [some (.ref 347), some (.int w), none, none] rfl (by simp [lg_sl, Value.category]) ?_
  refine r_iconst (v := 0) dX11_manyHow_0 (by decide) ?_
  refine r_istore_n2 dX11_manyHow_1 rfl ?_
  refine r_iconst (v := 0) dX11_manyHow_2 (by decide) ?_
  refine r_istore_n3 dX11_manyHow_3 rfl ?_
  exact l_manyHow hP hv w d 0 (Nat.zero_le n)
set_option maxHeartbeats 1000000 in
theorem l_manyMade {E : xCl} {ex : Bool} {I V : Nat → Nat → Int32} {e : Int32} {J : Nat → Nat → Int64} {P : Nat → Nat → Nat} (hP : Pok P) {m : Nat} (hm : m ≤ 8) (hc : I 347 14 = nI m) (w : Int32) (d : Nat) : ∀ j, j ≤ m → xR (xEx E ex (d + 0)) ex none yX11_manyMade cX11_manyMade (some .int) 4 [some (.ref 347), some (.int w), some (.int (sOut V w j)), some (.int (nI j))] [] (SH, wR (wE I e) 0 V, J, P) (xEq (some (.int (sOut V w m))) (SH, wR (wE I e) 0 V, J, P)) := by
  refine r_for (fun j => xR (xEx E ex (d + 0)) ex none yX11_manyMade cX11_manyMade (some .int) 4 [some (.ref 347), some (.int w), some (.int (sOut V w j)), some (.int (nI j))] [] (SH, wR (wE I e) 0 V, J, P) (xEq (some (.int (sOut V w m))) (SH, wR (wE I e) 0 V, J, P))) _ ?_ ?_
  · intro j hj ih
    refine r_iload_n dX11_manyMade_4 rfl ?_
    refine r_aload_n dX11_manyMade_5 rfl ?_
    refine r_getIv dX11_manyMade_6 flX11_276 sh_347 (by decide) rfl ((wR_o _ _ _ (by decide) _).trans ((wE_f _ _ (by decide)).trans hc)) ?_
    refine r_ic_ge 36 dX11_manyMade_9 (by decide) (fun c9 => ?_) (fun c9 => ?_)
    · exact absurd c9 (nI_ge hj (by omega))
    · refine r_iload_n dX11_manyMade_12 rfl ?_
      refine r_aload_n dX11_manyMade_13 rfl ?_
      refine r_getR dX11_manyMade_14 flX11_136 sh_347 (by decide) rfl (pf_347_65 hP) ?_
      refine r_iload_n dX11_manyMade_17 rfl ?_
      refine r_ialv dX11_manyMade_18 sh_388 (iz8 (im8 hj hm)) ((rZ11 _ _ (im8 hj hm)).trans (congrArg (V 11) (cl8 hj hm))) ?_
      refine r_iload_n dX11_manyMade_19 rfl ?_
      refine r_ic_ne 27 dX11_manyMade_20 (by decide) (fun c20 => ?_) (fun c20 => ?_)
      · refine r_iconst (v := 0) dX11_manyMade_27 (by decide) ?_
        refine r_iadd dX11_manyMade_28 ?_
        refine r_istore_n2 dX11_manyMade_29 rfl ?_
        refine r_iinc3 (v := 1) dX11_manyMade_30 (by decide) rfl ?_
        refine r_goto 4 dX11_manyMade_33 (by decide) ?_
        rw [nI_1]; rw [sOut, if_neg c20] at ih; rw [Int32.add_zero]; exact ih
      · refine r_iconst (v := 1) dX11_manyMade_23 (by decide) ?_
        refine r_goto 28 dX11_manyMade_24 (by decide) ?_
        refine r_iadd dX11_manyMade_28 ?_
        refine r_istore_n2 dX11_manyMade_29 rfl ?_
        refine r_iinc3 (v := 1) dX11_manyMade_30 (by decide) rfl ?_
        refine r_goto 4 dX11_manyMade_33 (by decide) ?_
        rw [nI_1]; rw [sOut, if_pos c20] at ih; exact ih
  · refine r_iload_n dX11_manyMade_4 rfl ?_
    refine r_aload_n dX11_manyMade_5 rfl ?_
    refine r_getIv dX11_manyMade_6 flX11_276 sh_347 (by decide) rfl ((wR_o _ _ _ (by decide) _).trans ((wE_f _ _ (by decide)).trans hc)) ?_
    refine r_ic_ge 36 dX11_manyMade_9 (by decide) (fun c9 => ?_) (fun c9 => ?_)
    · refine r_iload_n dX11_manyMade_36 rfl ?_
      exact r_iret dX11_manyMade_37 rfl rfl rfl rfl
    · exact absurd (nI_le (Nat.le_refl _) (by omega)) c9
set_option maxHeartbeats 1000000 in
theorem k_manyMade {E : xCl} {ex : Bool} {I V : Nat → Nat → Int32} {e : Int32} {J : Nat → Nat → Int64} {P : Nat → Nat → Nat} (hP : Pok P) {m : Nat} (hm : m ≤ 8) (hc : I 347 14 = nI m) (w : Int32) (d : Nat) : xEx E ex (d + 1) yX11_manyMade [.ref 347, .int w] (SH, wR (wE I e) 0 V, J, P) (some (.int (sOut V w m))) (SH, wR (wE I e) 0 V, J, P) := by
  refine x_enter cqX11_manyMade [some (.ref 347), some (.int w), none, none] rfl (by simp [lg_sl, Value.category]) ?_
  refine r_iconst (v := 0) dX11_manyMade_0 (by decide) ?_
  refine r_istore_n2 dX11_manyMade_1 rfl ?_
  refine r_iconst (v := 0) dX11_manyMade_2 (by decide) ?_
  refine r_istore_n3 dX11_manyMade_3 rfl ?_
  exact l_manyMade hP hm hc w d 0 (Nat.zero_le m)
def rKb (I : Nat → Nat → Int32) : Int32 := if 0 ≤ I 347 77 then I 347 77 else I 347 76
set_option maxHeartbeats 1000000 in
theorem k_knownBy {E : xCl} {ex : Bool} {I V : Nat → Nat → Int32} {e : Int32} {J : Nat → Nat → Int64} {P : Nat → Nat → Nat} {b : Nat} (d : Nat) : xEx E ex (d + 1) yX11_knownBy [.ref 347] (SH, wR (wE I e) b V, J, P) (some (.int (rKb I))) (SH, wR (wE I e) b V, J, P) := by
  refine x_enter cqX11_knownBy [some (.ref 347)] rfl (by simp [lg_sl, Value.category]) ?_
  refine r_aload_n dX11_knownBy_0 rfl ?_
  refine r_getIv dX11_knownBy_1 flX11_157 sh_347 (by decide) rfl ((wR_o _ _ _ (by decide) _).trans (wE_f _ _ (by decide))) ?_
  refine r_if_ge 14 dX11_knownBy_4 (by decide) (fun c4 => ?_) (fun c4 => ?_)
  · refine r_aload_n dX11_knownBy_14 rfl ?_
    refine r_getIv dX11_knownBy_15 flX11_157 sh_347 (by decide) rfl ((wR_o _ _ _ (by decide) _).trans (wE_f _ _ (by decide))) ?_
    exact r_iret dX11_knownBy_18 rfl rfl (by rw [rKb, if_pos c4]) rfl
  · refine r_aload_n dX11_knownBy_7 rfl ?_
    refine r_getIv dX11_knownBy_8 flX11_400 sh_347 (by decide) rfl ((wR_o _ _ _ (by decide) _).trans (wE_f _ _ (by decide))) ?_
    refine r_goto 18 dX11_knownBy_11 (by decide) ?_
    exact r_iret dX11_knownBy_18 rfl rfl (by rw [rKb, if_neg c4]) rfl
def rCo (V I : Nat → Nat → Int32) (n m : Nat) (w : Int32) : Int32 := if w = 0 then I 347 12 else if w = 1 then V 13 0 else if w = 2 then sCnt V 0 n else if w = 3 then sCnt V 1 n else if w = 4 then sCnt V 2 n else if w = 5 then sCnt V 3 n else if w = 6 then I 347 14 else if w = 7 then sOut V 1 m else if w = 8 then sOut V 2 m else if w = 9 then I 347 15 else if w = 10 then V 15 0 else if w = 11 then sOw V (-1) (-1) n else if w = 12 then V 14 0 else if w = 13 then I 347 76 else if w = 14 then rKb I else if w = 15 then I 347 83 else -1
set_option maxHeartbeats 1000000 in
theorem k_rcount {E : xCl} {ex : Bool} {I I0 V : Nat → Nat → Int32} {e : Int32} {J : Nat → Nat → Int64} {P : Nat → Nat → Nat} (hP : Pok P) (hI : xu I 347 2 0 = I0)  {n : Nat} (hv : Vok V n) {m : Nat} (hm : m ≤ 8) (hc : I0 347 14 = nI m) (w : Int32) (d : Nat) : xEx E ex (d + 3) yX11_count [.ref 347, .int w] (SH, wR (wE I e) 0 V, J, P) (some (.int (rCo V I0 n m w))) (SH, wR (wE I0 e) 0 V, J, P) := by
  refine x_enter cqX11_count [some (.ref 347), some (.int w)] rfl (by simp [lg_sl, Value.category]) ?_
  refine r_aload_n dX11_count_0 rfl ?_
  refine r_iconst (v := 0) dX11_count_1 (by decide) ?_
  refine r_putIv dX11_count_2 flX11_193 ⟨_, _, _, rfl, Or.inl rfl⟩ sh_347 (by decide) rfl rfl rfl ((wR_xo _ _ _ (by decide) _ _).trans (congrArg (fun z => wR z _ _) ((wE_c _ _ _ (by decide)).trans (congrArg (fun z => wE z _) hI)))) ?_
  refine r_iload_n dX11_count_5 rfl ?_
  by_cases q6_0 : w = 0
  · refine r_tsI 84 dX11_count_6 (by rw [q6_0]; decide) (by rw [q6_0]; decide) (off := 78) (by rw [q6_0]; rfl) (by decide) ?_
    refine r_aload_n dX11_count_84 rfl ?_
    refine r_getIv dX11_count_85 flX11_270 sh_347 (by decide) rfl ((wR_o _ _ _ (by decide) _).trans (wE_f _ _ (by decide))) ?_
    exact r_iret dX11_count_88 rfl rfl (by rw [q6_0]; rfl) rfl
  by_cases q6_1 : w = 1
  · refine r_tsI 89 dX11_count_6 (by rw [q6_1]; decide) (by rw [q6_1]; decide) (off := 83) (by rw [q6_1]; rfl) (by decide) ?_
    refine r_aload_n dX11_count_89 rfl ?_
    refine r_getR dX11_count_90 flX11_106 sh_347 (by decide) rfl (pf_347_55 hP) ?_
    refine r_iconst (v := 0) dX11_count_93 (by decide) ?_
    refine r_ialv dX11_count_94 sh_378 ix2_0 (rS13_0 _ _) ?_
    exact r_iret dX11_count_95 rfl rfl (by rw [q6_1]; rfl) rfl
  by_cases q6_2 : w = 2
  · refine r_tsI 96 dX11_count_6 (by rw [q6_2]; decide) (by rw [q6_2]; decide) (off := 90) (by rw [q6_2]; rfl) (by decide) ?_
    refine r_aload_n dX11_count_96 rfl ?_
    refine r_iconst (v := 0) dX11_count_97 (by decide) ?_
    refine r_cV1i dX11_count_98 vlX11_560 sh_347 (Nat.le_of_ble_eq_true rfl) (k_manyHow hP hv 0 (d + 1)) ?_
    exact r_iret dX11_count_101 rfl rfl (by rw [q6_2]; rfl) rfl
  by_cases q6_3 : w = 3
  · refine r_tsI 102 dX11_count_6 (by rw [q6_3]; decide) (by rw [q6_3]; decide) (off := 96) (by rw [q6_3]; rfl) (by decide) ?_
    refine r_aload_n dX11_count_102 rfl ?_
    refine r_iconst (v := 1) dX11_count_103 (by decide) ?_
    refine r_cV1i dX11_count_104 vlX11_560 sh_347 (Nat.le_of_ble_eq_true rfl) (k_manyHow hP hv 1 (d + 1)) ?_
    exact r_iret dX11_count_107 rfl rfl (by rw [q6_3]; rfl) rfl
  by_cases q6_4 : w = 4
  · refine r_tsI 108 dX11_count_6 (by rw [q6_4]; decide) (by rw [q6_4]; decide) (off := 102) (by rw [q6_4]; rfl) (by decide) ?_
    refine r_aload_n dX11_count_108 rfl ?_
    refine r_iconst (v := 2) dX11_count_109 (by decide) ?_
    refine r_cV1i dX11_count_110 vlX11_560 sh_347 (Nat.le_of_ble_eq_true rfl) (k_manyHow hP hv 2 (d + 1)) ?_
    exact r_iret dX11_count_113 rfl rfl (by rw [q6_4]; rfl) rfl
  by_cases q6_5 : w = 5
  · refine r_tsI 114 dX11_count_6 (by rw [q6_5]; decide) (by rw [q6_5]; decide) (off := 108) (by rw [q6_5]; rfl) (by decide) ?_
    refine r_aload_n dX11_count_114 rfl ?_
    refine r_iconst (v := 3) dX11_count_115 (by decide) ?_
    refine r_cV1i dX11_count_116 vlX11_560 sh_347 (Nat.le_of_ble_eq_true rfl) (k_manyHow hP hv 3 (d + 1)) ?_
    exact r_iret dX11_count_119 rfl rfl (by rw [q6_5]; rfl) rfl
  by_cases q6_6 : w = 6
  · refine r_tsI 120 dX11_count_6 (by rw [q6_6]; decide) (by rw [q6_6]; decide) (off := 114) (by rw [q6_6]; rfl) (by decide) ?_
    refine r_aload_n dX11_count_120 rfl ?_
    refine r_getIv dX11_count_121 flX11_276 sh_347 (by decide) rfl ((wR_o _ _ _ (by decide) _).trans (wE_f _ _ (by decide))) ?_
    exact r_iret dX11_count_124 rfl rfl (by rw [q6_6]; rfl) rfl
  by_cases q6_7 : w = 7
  · refine r_tsI 125 dX11_count_6 (by rw [q6_7]; decide) (by rw [q6_7]; decide) (off := 119) (by rw [q6_7]; rfl) (by decide) ?_
    refine r_aload_n dX11_count_125 rfl ?_
    refine r_iconst (v := 1) dX11_count_126 (by decide) ?_
    refine r_cV1i dX11_count_127 vlX11_563 sh_347 (Nat.le_of_ble_eq_true rfl) (k_manyMade hP hm hc 1 (d + 1)) ?_
    exact r_iret dX11_count_130 rfl rfl (by rw [q6_7]; rfl) rfl
  by_cases q6_8 : w = 8
  · refine r_tsI 131 dX11_count_6 (by rw [q6_8]; decide) (by rw [q6_8]; decide) (off := 125) (by rw [q6_8]; rfl) (by decide) ?_
    refine r_aload_n dX11_count_131 rfl ?_
    refine r_iconst (v := 2) dX11_count_132 (by decide) ?_
    refine r_cV1i dX11_count_133 vlX11_563 sh_347 (Nat.le_of_ble_eq_true rfl) (k_manyMade hP hm hc 2 (d + 1)) ?_
    exact r_iret dX11_count_136 rfl rfl (by rw [q6_8]; rfl) rfl
  by_cases q6_9 : w = 9
  · refine r_tsI 137 dX11_count_6 (by rw [q6_9]; decide) (by rw [q6_9]; decide) (off := 131) (by rw [q6_9]; rfl) (by decide) ?_
    refine r_aload_n dX11_count_137 rfl ?_
    refine r_getIv dX11_count_138 flX11_279 sh_347 (by decide) rfl ((wR_o _ _ _ (by decide) _).trans (wE_f _ _ (by decide))) ?_
    exact r_iret dX11_count_141 rfl rfl (by rw [q6_9]; rfl) rfl
  by_cases q6_10 : w = 10
  · refine r_tsI 142 dX11_count_6 (by rw [q6_10]; decide) (by rw [q6_10]; decide) (off := 136) (by rw [q6_10]; rfl) (by decide) ?_
    refine r_aload_n dX11_count_142 rfl ?_
    refine r_getR dX11_count_143 flX11_139 sh_347 (by decide) rfl (pf_347_66 hP) ?_
    refine r_iconst (v := 0) dX11_count_146 (by decide) ?_
    refine r_ialv dX11_count_147 sh_389 ix2_0 (rS15_0 _ _) ?_
    exact r_iret dX11_count_148 rfl rfl (by rw [q6_10]; rfl) rfl
  by_cases q6_11 : w = 11
  · refine r_tsI 149 dX11_count_6 (by rw [q6_11]; decide) (by rw [q6_11]; decide) (off := 143) (by rw [q6_11]; rfl) (by decide) ?_
    refine r_aload_n dX11_count_149 rfl ?_
    refine r_iconst (v := (-1)) dX11_count_150 (by decide) ?_
    refine r_iconst (v := (-1)) dX11_count_151 (by decide) ?_
    refine r_cV2i dX11_count_152 vlX11_462 sh_347 (Nat.le_of_ble_eq_true rfl) (k_sumOwed hP hv m1_m1 m1_m1 d) ?_
    exact r_iret dX11_count_155 rfl rfl (by rw [q6_11]; rfl) rfl
  by_cases q6_12 : w = 12
  · refine r_tsI 156 dX11_count_6 (by rw [q6_12]; decide) (by rw [q6_12]; decide) (off := 150) (by rw [q6_12]; rfl) (by decide) ?_
    refine r_aload_n dX11_count_156 rfl ?_
    refine r_getR dX11_count_157 flX11_142 sh_347 (by decide) rfl (pf_347_67 hP) ?_
    refine r_iconst (v := 0) dX11_count_160 (by decide) ?_
    refine r_ialv dX11_count_161 sh_390 ix2_0 (rS14_0 _ _) ?_
    exact r_iret dX11_count_162 rfl rfl (by rw [q6_12]; rfl) rfl
  by_cases q6_13 : w = 13
  · refine r_tsI 163 dX11_count_6 (by rw [q6_13]; decide) (by rw [q6_13]; decide) (off := 157) (by rw [q6_13]; rfl) (by decide) ?_
    refine r_aload_n dX11_count_163 rfl ?_
    refine r_getIv dX11_count_164 flX11_400 sh_347 (by decide) rfl ((wR_o _ _ _ (by decide) _).trans (wE_f _ _ (by decide))) ?_
    exact r_iret dX11_count_167 rfl rfl (by rw [q6_13]; rfl) rfl
  by_cases q6_14 : w = 14
  · refine r_tsI 168 dX11_count_6 (by rw [q6_14]; decide) (by rw [q6_14]; decide) (off := 162) (by rw [q6_14]; rfl) (by decide) ?_
    refine r_aload_n dX11_count_168 rfl ?_
    refine r_cV0i dX11_count_169 vlX11_519 sh_347 (Nat.le_of_ble_eq_true rfl) (k_knownBy (b := 0) (d + 1)) ?_
    exact r_iret dX11_count_172 rfl rfl (by rw [q6_14]; rfl) rfl
  by_cases q6_15 : w = 15
  · refine r_tsI 173 dX11_count_6 (by rw [q6_15]; decide) (by rw [q6_15]; decide) (off := 167) (by rw [q6_15]; rfl) (by decide) ?_
    refine r_aload_n dX11_count_173 rfl ?_
    refine r_getIv dX11_count_174 flX11_403 sh_347 (by decide) rfl ((wR_o _ _ _ (by decide) _).trans (wE_f _ _ (by decide))) ?_
    exact r_iret dX11_count_177 rfl rfl (by rw [q6_15]; rfl) rfl
  refine r_tsO 178 dX11_count_6 (tsout_0_15 q6_0 q6_1 q6_2 q6_3 q6_4 q6_5 q6_6 q6_7 q6_8 q6_9 q6_10 q6_11 q6_12 q6_13 q6_14 q6_15) (by decide) ?_
  refine r_iconst (v := (-1)) dX11_count_178 (by decide) ?_
  exact r_iret dX11_count_179 rfl rfl (by rw [rCo, if_neg q6_0, if_neg q6_1, if_neg q6_2, if_neg q6_3, if_neg q6_4, if_neg q6_5, if_neg q6_6, if_neg q6_7, if_neg q6_8, if_neg q6_9, if_neg q6_10, if_neg q6_11, if_neg q6_12, if_neg q6_13, if_neg q6_14, if_neg q6_15]) rfl
def rSk (V I : Nat → Nat → Int32) (n : Nat) (a c : Int32) : Int32 := if (¬ a < 0 ∧ ¬ I 347 12 ≤ a) ∧ (¬ c < 0 ∧ ¬ I 347 12 ≤ c) ∧ ¬ a = c then (if sOw V c a n ≤ sOw V a c n then sOw V c a n else sOw V a c n) else -1
set_option maxHeartbeats 1000000 in
theorem k_rstrike {E : xCl} {ex : Bool} {I I0 V : Nat → Nat → Int32} {e : Int32} {J : Nat → Nat → Int64} {P : Nat → Nat → Nat} (hP : Pok P) (hI : xu I 347 2 0 = I0)  {n : Nat} (hv : Vok V n) (a c : Int32) (d : Nat) : xEx E ex (d + 3) yX11_strike [.ref 347, .int a, .int c] (SH, wR (wE I e) 0 V, J, P) (some (.int (rSk V I0 n a c))) (SH, wR (wE I0 e) 0 V, J, P) := by
  refine x_enter cqX11_strike [some (.ref 347), some (.int a), some (.int c), none, none] rfl (by simp [lg_sl, Value.category]) ?_
  refine r_aload_n dX11_strike_0 rfl ?_
  refine r_iconst (v := 0) dX11_strike_1 (by decide) ?_
  refine r_putIv dX11_strike_2 flX11_193 ⟨_, _, _, rfl, Or.inl rfl⟩ sh_347 (by decide) rfl rfl rfl ((wR_xo _ _ _ (by decide) _ _).trans (congrArg (fun z => wR z _ _) ((wE_c _ _ _ (by decide)).trans (congrArg (fun z => wE z _) hI)))) ?_
  refine r_aload_n dX11_strike_5 rfl ?_
  refine r_iload_n dX11_strike_6 rfl ?_
  by_cases h7 : ¬ a < 0 ∧ ¬ I0 347 12 ≤ a
  · refine r_cV1i dX11_strike_7 vlX11_456 sh_347 (Nat.le_of_ble_eq_true rfl) (k_rPer_t (b := 0) h7 (d + 1)) ?_
    refine r_if_eq 26 dX11_strike_10 (by decide) (fun c10 => ?_) (fun c10 => ?_)
    · exact absurd c10 (by decide)
    · refine r_aload_n dX11_strike_13 rfl ?_
      refine r_iload_n dX11_strike_14 rfl ?_
      by_cases h15 : ¬ c < 0 ∧ ¬ I0 347 12 ≤ c
      · refine r_cV1i dX11_strike_15 vlX11_456 sh_347 (Nat.le_of_ble_eq_true rfl) (k_rPer_t (b := 0) h15 (d + 1)) ?_
        refine r_if_eq 26 dX11_strike_18 (by decide) (fun c18 => ?_) (fun c18 => ?_)
        · exact absurd c18 (by decide)
        · refine r_iload_n dX11_strike_21 rfl ?_
          refine r_iload_n dX11_strike_22 rfl ?_
          refine r_ic_ne 28 dX11_strike_23 (by decide) (fun c23 => ?_) (fun c23 => ?_)
          · refine r_aload_n dX11_strike_28 rfl ?_
            refine r_iload_n dX11_strike_29 rfl ?_
            refine r_iload_n dX11_strike_30 rfl ?_
            refine r_cV2i dX11_strike_31 vlX11_462 sh_347 (Nat.le_of_ble_eq_true rfl) (k_sumOwed hP hv (pos_m1 h7.1) (pos_m1 h15.1) d) ?_
            refine r_istore_n3 dX11_strike_34 rfl ?_
            refine r_aload_n dX11_strike_35 rfl ?_
            refine r_iload_n dX11_strike_36 rfl ?_
            refine r_iload_n dX11_strike_37 rfl ?_
            refine r_cV2i dX11_strike_38 vlX11_462 sh_347 (Nat.le_of_ble_eq_true rfl) (k_sumOwed hP hv (pos_m1 h15.1) (pos_m1 h7.1) d) ?_
            refine r_istore4 dX11_strike_41 rfl ?_
            refine r_iload_n dX11_strike_43 rfl ?_
            refine r_iload dX11_strike_44 rfl ?_
            refine r_ic_ge 53 dX11_strike_46 (by decide) (fun c46 => ?_) (fun c46 => ?_)
            · refine r_iload dX11_strike_53 rfl ?_
              exact r_iret dX11_strike_55 rfl rfl (by rw [rSk, if_pos ⟨h7, h15, c23⟩, if_pos c46]) rfl
            · refine r_iload_n dX11_strike_49 rfl ?_
              refine r_goto 55 dX11_strike_50 (by decide) ?_
              exact r_iret dX11_strike_55 rfl rfl (by rw [rSk, if_pos ⟨h7, h15, c23⟩, if_neg c46]) rfl
          · refine r_iconst (v := (-1)) dX11_strike_26 (by decide) ?_
            exact r_iret dX11_strike_27 rfl rfl (by rw [rSk, if_neg (fun z => z.2.2 c23)]) rfl
      · refine r_cV1i dX11_strike_15 vlX11_456 sh_347 (Nat.le_of_ble_eq_true rfl) (k_rPer_f (b := 0) h15 (d + 1)) ?_
        refine r_if_eq 26 dX11_strike_18 (by decide) (fun c18 => ?_) (fun c18 => ?_)
        · refine r_iconst (v := (-1)) dX11_strike_26 (by decide) ?_
          exact r_iret dX11_strike_27 rfl rfl (by rw [rSk, if_neg (fun z => h15 z.2.1)]) rfl
        · exact absurd c18 (by decide)
  · refine r_cV1i dX11_strike_7 vlX11_456 sh_347 (Nat.le_of_ble_eq_true rfl) (k_rPer_f (b := 0) h7 (d + 1)) ?_
    refine r_if_eq 26 dX11_strike_10 (by decide) (fun c10 => ?_) (fun c10 => ?_)
    · refine r_iconst (v := (-1)) dX11_strike_26 (by decide) ?_
      exact r_iret dX11_strike_27 rfl rfl (by rw [rSk, if_neg (fun z => h7 z.1)]) rfl
    · exact absurd c10 (by decide)
