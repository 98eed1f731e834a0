/-! text of the reference, whole -/
theorem uR_id (I : Nat → Nat → Int32) : uR I I = I := by
  funext a q
  simp only [uR]
  split <;> rfl
set_option maxHeartbeats 1000000 in
theorem k_rbegin {E : xCl} {ex : Bool} {I V : Nat → Nat → Int32} {e : Int32} {J : Nat → Nat → Int64} {P : Nat → Nat → Nat} (hP : Pok P) {q : Nat} (hq10 : q ≤ 10) (hq : I 347 13 = nI q) (hp : ∀ j, j < 10 → I 361 j = 0 ∨ I 361 j = 1) (d : Nat) : ∃ J', xEx E ex (d + 2) yX11_begin [.ref 347] (SH, wR (wE I e) 0 V, J, P) none (SH, wR (wE (xu (xu (xu (xu (rPl I) 347 76 0) 347 77 (-1)) 347 83 0) 347 85 0) e) 0 (aT I 0 q V), J', P) := by
  refine ⟨xu J 347 68 (I 351 1).toInt64, ?_⟩
  refine x_enter cqX11_begin [some (.ref 347)] rfl (by simp [lg_sl, Value.category]) ?_
  refine r_aload_n dX11_begin_0 rfl ?_
  refine r_iconst (v := 0) dX11_begin_1 (by decide) ?_
  refine r_cV1v dX11_begin_2 vlX11_390 sh_347 (Nat.le_of_ble_eq_true rfl) (k_atFirst hP (b := 0) (by decide) hq10 hq hp d) ?_
  refine r_aload_n dX11_begin_5 rfl ?_
  refine r_aload_n dX11_begin_6 rfl ?_
  refine r_getR dX11_begin_7 flX11_24 sh_347 (by decide) rfl (pf_347_21 hP) ?_
  refine r_iconst (v := 1) dX11_begin_10 (by decide) ?_
  refine r_ialv dX11_begin_11 sh_351 (vp_in_nI (n := 1) (by decide) (by decide)) ((wR_o _ _ _ (by decide) _).trans ((wE_o _ _ (by decide) _).trans (congrArg (I 351) (nI_clamp (n := 1) (by decide))))) ?_
  refine r_i2l dX11_begin_12 ?_
  refine r_putJ dX11_begin_13 flX11_393 ⟨_, _, _, rfl, Or.inl rfl⟩ sh_347 (by decide) rfl rfl ?_
  refine r_aload_n dX11_begin_16 rfl ?_
  refine r_cV0v dX11_begin_17 vlX11_397 sh_347 (Nat.le_of_ble_eq_true rfl) (k_plainTried d) ?_
  refine r_aload_n dX11_begin_20 rfl ?_
  refine r_iconst (v := 0) dX11_begin_21 (by decide) ?_
  refine r_putIv dX11_begin_22 flX11_400 ⟨_, _, _, rfl, Or.inl rfl⟩ sh_347 (by decide) rfl rfl rfl ((wR_xo _ _ _ (by decide) _ _).trans (congrArg (fun z => wR z _ _) (wE_c _ _ _ (by decide)))) ?_
  refine r_aload_n dX11_begin_25 rfl ?_
  refine r_iconst (v := (-1)) dX11_begin_26 (by decide) ?_
  refine r_putIv dX11_begin_27 flX11_157 ⟨_, _, _, rfl, Or.inl rfl⟩ sh_347 (by decide) rfl rfl rfl ((wR_xo _ _ _ (by decide) _ _).trans (congrArg (fun z => wR z _ _) (wE_c _ _ _ (by decide)))) ?_
  refine r_aload_n dX11_begin_30 rfl ?_
  refine r_iconst (v := 0) dX11_begin_31 (by decide) ?_
  refine r_putIv dX11_begin_32 flX11_403 ⟨_, _, _, rfl, Or.inl rfl⟩ sh_347 (by decide) rfl rfl rfl ((wR_xo _ _ _ (by decide) _ _).trans (congrArg (fun z => wR z _ _) (wE_c _ _ _ (by decide)))) ?_
  refine r_aload_n dX11_begin_35 rfl ?_
  refine r_iconst (v := 0) dX11_begin_36 (by decide) ?_
  refine r_putIv dX11_begin_37 flX11_406 ⟨_, _, _, rfl, Or.inl rfl⟩ sh_347 (by decide) rfl rfl rfl ((wR_xo _ _ _ (by decide) _ _).trans (congrArg (fun z => wR z _ _) (wE_c _ _ _ (by decide)))) ?_
  exact r_vret dX11_begin_40 rfl rfl rfl
theorem wE_i2 (I : Nat → Nat → Int32) : wE I (I 347 52) = I := xu_sf I 347 52
theorem kpt_k {E : xCl} {ex : Bool} {M I : Nat → Nat → Int32} {J : Nat → Nat → Int64} {P : Nat → Nat → Nat} (hP : Pok P) (h366 : ∀ l, l < 3 → M 366 (3 + l) = 0 ∨ M 366 (3 + l) = 1) {q : Nat} (hq10 : q ≤ 10) (hq : M 347 17 = nI q) (hp : ∀ j, M 361 j = 0 ∨ M 361 j = 1) (hpt : Pt M) {n : Nat} (hn : 3 ≤ n) : ∃ J', xEx E ex n yX11_keepText [.ref 347] (SH, uR M I, J, P) none (SH, wR (wE (xu (xu (xu (xu (rPl (uR (kpP 372 M) I)) 347 76 0) 347 77 (-1)) 347 83 0) 347 85 0) (M 347 52)) 0 (aT (uR (kpP 372 M) I) 0 q (vR (uR (kpP 372 M) I) 0)), J', P) := by
  obtain ⟨d, rfl⟩ : ∃ d, n = d + 3 := ⟨n - 3, by omega⟩
  have k13 : uR (kpP 372 M) I 347 13 = nI q := by rw [uR_r (by decide)]; exact (if_pos ⟨rfl, by decide, by decide⟩).trans hq
  have k361 : ∀ j, j < 10 → uR (kpP 372 M) I 361 j = 0 ∨ uR (kpP 372 M) I 361 j = 1 := fun j hj => by
    rw [uR_r (by decide)]
    simp only [kpP]
    rw [if_neg (by omega), if_pos ⟨by omega, by show j < 10; exact hj⟩]
    exact hp _
  have kpt : Pt (uR (kpP 372 M) I) := fun j hj => by
    rw [uR_r (by decide)]
    simp only [kpP]
    rw [if_neg (by omega), if_neg (by omega)]
    exact hpt j hj
  have k52 : uR (kpP 372 M) I 347 52 = M 347 52 := by
    rw [uR_r (by decide)]
    simp only [kpP]
    rw [if_neg (by omega), if_neg (by omega)]
  obtain ⟨J', hb⟩ := k_rbegin (E := E) (ex := ex) (I := uR (kpP 372 M) I) (V := vR (uR (kpP 372 M) I) 0) (e := M 347 52) (J := J) (P := P) hP hq10 k13 k361 d
  rw [wR0 kpt, ← k52, wE_i2] at hb
  rw [← k52]
  refine ⟨J', ?_⟩
  refine x_enter (d := d + 2) cqX11_keepText [some (.ref 347), none] rfl (by simp [lg_sl, Value.category]) ?_
  refine kpt_r hP h366 (by omega) ?_
  refine r_aload_n dX11_keepText_236 rfl ?_
  refine r_cV0v dX11_keepText_237 vlX11_286 sh_347 (Nat.le_of_ble_eq_true rfl) hb ?_
  exact r_vret dX11_keepText_240 rfl rfl rfl
set_option maxHeartbeats 1000000 in
theorem rtx_n {M : Nat → Nat → Int32} {x : Int32} (h : ¬ (¬ x < 0 ∧ x ≤ M 347 1)) : rRun 1 yX11_text [.ref 347, .int x] M (some (.int (-2))) (xu M 347 2 0) := by
  refine rAt.run (h := 0) cqX11_text (ls := [some (.ref 347), some (.int x), none]) rfl (by simp [lg_sl, Value.category]) ?_
  intro E ex I J P n hn hP
  refine r_aload_n dX11_text_0 rfl ?_
  refine r_iconst (v := 0) dX11_text_1 (by decide) ?_
  refine r_putIv dX11_text_2 flX11_193 ⟨_, _, _, rfl, Or.inl rfl⟩ sh_347 (by decide) rfl rfl rfl (uR_x (by decide) _ _) ?_
  refine r_iload_n dX11_text_5 rfl ?_
  refine r_if_lt 17 dX11_text_6 (by decide) (fun c6 => ?_) (fun c6 => ?_)
  · refine r_bipush (v := (-2)) dX11_text_17 (by decide) ?_
    exact r_iret dX11_text_19 rfl rfl rfl rfl
  · refine r_iload_n dX11_text_9 rfl ?_
    refine r_aload_n dX11_text_10 rfl ?_
    refine r_getIv dX11_text_11 flX11_196 sh_347 (by decide) rfl (uR_v (by decide) (xu_ne (by omega))) ?_
    refine r_ic_le 20 dX11_text_14 (by decide) (fun c14 => ?_) (fun c14 => ?_)
    · exact absurd ⟨c6, c14⟩ h
    · refine r_bipush (v := (-2)) dX11_text_17 (by decide) ?_
      exact r_iret dX11_text_19 rfl rfl rfl rfl
set_option maxHeartbeats 1000000 in
theorem rtx_f {M : Nat → Nat → Int32} {M1 M2 M' : Nat → Nat → Int32} {s : Nat} (hs : s ≤ 700) (hx : nI s ≤ M 347 1) (h1 : rRun 1 yX11_plain [.ref 347] (xu (xu (xu (xu (xu (xu M 347 2 0) 347 6 (nI s)) 347 1 0) 347 4 0) 347 5 (-1)) 347 7 0) none M1) (h2 : rRun 2 yX11_token [.ref 347] M1 none M2) (g : rAt 7 yX11_text cX11_text (some .int) 55 [some (.ref 347), some (.int (nI s)), some (.int (nI 0))] [] M2 (some (.int (-1))) M') : rRun 8 yX11_text [.ref 347, .int (nI s)] M (some (.int (-1))) M' := by
  refine rAt.run (h := 7) cqX11_text (ls := [some (.ref 347), some (.int (nI s)), none]) rfl (by simp [lg_sl, Value.category]) ?_
  intro E ex I J P n hn hP
  refine r_aload_n dX11_text_0 rfl ?_
  refine r_iconst (v := 0) dX11_text_1 (by decide) ?_
  refine r_putIv dX11_text_2 flX11_193 ⟨_, _, _, rfl, Or.inl rfl⟩ sh_347 (by decide) rfl rfl rfl (uR_x (by decide) _ _) ?_
  refine r_iload_n dX11_text_5 rfl ?_
  refine r_if_lt 17 dX11_text_6 (by decide) (fun c6 => ?_) (fun c6 => ?_)
  · exact absurd c6 (nI_pos (by omega))
  · refine r_iload_n dX11_text_9 rfl ?_
    refine r_aload_n dX11_text_10 rfl ?_
    refine r_getIv dX11_text_11 flX11_196 sh_347 (by decide) rfl (uR_v (by decide) (xu_ne (by omega))) ?_
    refine r_ic_le 20 dX11_text_14 (by decide) (fun c14 => ?_) (fun c14 => ?_)
    · refine r_aload_n dX11_text_20 rfl ?_
      refine r_iload_n dX11_text_21 rfl ?_
      refine r_putIv dX11_text_22 flX11_205 ⟨_, _, _, rfl, Or.inl rfl⟩ sh_347 (by decide) rfl rfl rfl (uR_x (by decide) _ _) ?_
      refine r_aload_n dX11_text_25 rfl ?_
      refine r_iconst (v := 0) dX11_text_26 (by decide) ?_
      refine r_putIv dX11_text_27 flX11_196 ⟨_, _, _, rfl, Or.inl rfl⟩ sh_347 (by decide) rfl rfl rfl (uR_x (by decide) _ _) ?_
      refine r_aload_n dX11_text_30 rfl ?_
      refine r_iconst (v := 0) dX11_text_31 (by decide) ?_
      refine r_putIv dX11_text_32 flX11_199 ⟨_, _, _, rfl, Or.inl rfl⟩ sh_347 (by decide) rfl rfl rfl (uR_x (by decide) _ _) ?_
      refine r_aload_n dX11_text_35 rfl ?_
      refine r_iconst (v := (-1)) dX11_text_36 (by decide) ?_
      refine r_putIv dX11_text_37 flX11_16 ⟨_, _, _, rfl, Or.inl rfl⟩ sh_347 (by decide) rfl rfl rfl (uR_x (by decide) _ _) ?_
      refine r_aload_n dX11_text_40 rfl ?_
      refine r_iconst (v := 0) dX11_text_41 (by decide) ?_
      refine r_putIv dX11_text_42 flX11_208 ⟨_, _, _, rfl, Or.inl rfl⟩ sh_347 (by decide) rfl rfl rfl (uR_x (by decide) _ _) ?_
      refine r_aload_n dX11_text_45 rfl ?_
      refine r_cV0v dX11_text_46 vlX11_187 sh_347 (Nat.le_of_ble_eq_true rfl) (h1 E ex I J P n (by omega) hP) ?_
      refine r_aload_n dX11_text_49 rfl ?_
      refine r_cV0v dX11_text_50 vlX11_245 sh_347 (Nat.le_of_ble_eq_true rfl) (h2 E ex I J P n (by omega) hP) ?_
      refine r_iconst (v := 0) dX11_text_53 (by decide) ?_
      refine r_istore_n2 dX11_text_54 rfl ?_
      exact g E ex I J P n (by omega) hP
    · exact absurd hx c14
set_option maxHeartbeats 2000000 in
theorem rtx_s {E : xCl} {ex : Bool} {M M1 M2 M' I : Nat → Nat → Int32} {J : Nat → Nat → Int64} {P : Nat → Nat → Nat} {s ln q : Nat} (hP : Pok P) (hs : s ≤ 700) (hx : nI s ≤ M 347 1) (h1 : rRun 1 yX11_plain [.ref 347] (xu (xu (xu (xu (xu (xu M 347 2 0) 347 6 (nI s)) 347 1 0) 347 4 0) 347 5 (-1)) 347 7 0) none M1) (h2 : rRun 2 yX11_token [.ref 347] M1 none M2) (g : rLoop (nI s) 0 M2 ln M') (h366 : ∀ l, l < 3 → M' 366 (3 + l) = 0 ∨ M' 366 (3 + l) = 1) (hq10 : q ≤ 10) (hq : M' 347 17 = nI q) (hp : ∀ j, M' 361 j = 0 ∨ M' 361 j = 1) (hpt : Pt M') {n : Nat} (hn : 8 ≤ n) : ∃ J', xEx E ex n yX11_text [.ref 347, .int (nI s)] (SH, uR M I, J, P) (some (.int (nI ln))) (SH, wR (wE (xu (xu (xu (xu (rPl (uR (kpP 372 M') I)) 347 76 0) 347 77 (-1)) 347 83 0) 347 85 0) (M' 347 52)) 0 (aT (uR (kpP 372 M') I) 0 q (vR (uR (kpP 372 M') I) 0)), J', P) := by
  obtain ⟨d, rfl⟩ : ∃ d, n = d + 1 := ⟨n - 1, by omega⟩
  obtain ⟨J', hk⟩ := kpt_k (E := E) (ex := ex) (M := M') (I := I) (J := J) (P := P) hP h366 hq10 hq hp hpt (n := d) (by omega)
  refine ⟨J', ?_⟩
  refine x_enter cqX11_text [some (.ref 347), some (.int (nI s)), none] rfl (by simp [lg_sl, Value.category]) ?_
  refine r_aload_n dX11_text_0 rfl ?_
  refine r_iconst (v := 0) dX11_text_1 (by decide) ?_
  refine r_putIv dX11_text_2 flX11_193 ⟨_, _, _, rfl, Or.inl rfl⟩ sh_347 (by decide) rfl rfl rfl (uR_x (by decide) _ _) ?_
  refine r_iload_n dX11_text_5 rfl ?_
  refine r_if_lt 17 dX11_text_6 (by decide) (fun c6 => ?_) (fun c6 => ?_)
  · exact absurd c6 (nI_pos (by omega))
  · refine r_iload_n dX11_text_9 rfl ?_
    refine r_aload_n dX11_text_10 rfl ?_
    refine r_getIv dX11_text_11 flX11_196 sh_347 (by decide) rfl (uR_v (by decide) (xu_ne (by omega))) ?_
    refine r_ic_le 20 dX11_text_14 (by decide) (fun c14 => ?_) (fun c14 => ?_)
    · refine r_aload_n dX11_text_20 rfl ?_
      refine r_iload_n dX11_text_21 rfl ?_
      refine r_putIv dX11_text_22 flX11_205 ⟨_, _, _, rfl, Or.inl rfl⟩ sh_347 (by decide) rfl rfl rfl (uR_x (by decide) _ _) ?_
      refine r_aload_n dX11_text_25 rfl ?_
      refine r_iconst (v := 0) dX11_text_26 (by decide) ?_
      refine r_putIv dX11_text_27 flX11_196 ⟨_, _, _, rfl, Or.inl rfl⟩ sh_347 (by decide) rfl rfl rfl (uR_x (by decide) _ _) ?_
      refine r_aload_n dX11_text_30 rfl ?_
      refine r_iconst (v := 0) dX11_text_31 (by decide) ?_
      refine r_putIv dX11_text_32 flX11_199 ⟨_, _, _, rfl, Or.inl rfl⟩ sh_347 (by decide) rfl rfl rfl (uR_x (by decide) _ _) ?_
      refine r_aload_n dX11_text_35 rfl ?_
      refine r_iconst (v := (-1)) dX11_text_36 (by decide) ?_
      refine r_putIv dX11_text_37 flX11_16 ⟨_, _, _, rfl, Or.inl rfl⟩ sh_347 (by decide) rfl rfl rfl (uR_x (by decide) _ _) ?_
      refine r_aload_n dX11_text_40 rfl ?_
      refine r_iconst (v := 0) dX11_text_41 (by decide) ?_
      refine r_putIv dX11_text_42 flX11_208 ⟨_, _, _, rfl, Or.inl rfl⟩ sh_347 (by decide) rfl rfl rfl (uR_x (by decide) _ _) ?_
      refine r_aload_n dX11_text_45 rfl ?_
      refine r_cV0v dX11_text_46 vlX11_187 sh_347 (Nat.le_of_ble_eq_true rfl) (h1 E ex I J P d (by omega) hP) ?_
      refine r_aload_n dX11_text_49 rfl ?_
      refine r_cV0v dX11_text_50 vlX11_245 sh_347 (Nat.le_of_ble_eq_true rfl) (h2 E ex I J P d (by omega) hP) ?_
      refine r_iconst (v := 0) dX11_text_53 (by decide) ?_
      refine r_istore_n2 dX11_text_54 rfl ?_
      refine g E ex I J P d _ (by omega) hP ?_
      refine r_aload_n dX11_text_77 rfl ?_
      refine r_cV0v dX11_text_78 vlX11_190 sh_347 (Nat.le_of_ble_eq_true rfl) hk ?_
      refine r_iload_n dX11_text_81 rfl ?_
      exact r_iret dX11_text_82 rfl rfl rfl rfl
    · exact absurd hx c14
