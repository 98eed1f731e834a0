/-! the class: order -/
theorem to103 : ∀ t ∈ TL, ∀ f, f < 13 → t + f ≠ 103 := by decide +kernel
noncomputable def sOr (ok : Nat → Nat → Prop) (A q : Nat) : Int32 := @ite _ (eE ok A 0) (Classical.propDecidable _) (nI (nxE ok A (ptE ok A 0 q))) (-2)
theorem sOr_t {ok : Nat → Nat → Prop} {A q : Nat} (h : eE ok A 0) : sOr ok A q = nI (nxE ok A (ptE ok A 0 q)) := if_pos h
theorem sOr_f {ok : Nat → Nat → Prop} {A q : Nat} (h : ¬ eE ok A 0) : sOr ok A q = -2 := if_neg h
abbrev okO (n : Nat) (x w k : Int32) : Prop := ¬ x < 0 ∧ x < 1 <<< (nI n &&& 31) ∧ ¬ w < 0 ∧ w ≤ 9999 ∧ ¬ k < 0
set_option maxHeartbeats 1000000 in
theorem k_order_n {E : xCl} {ex : Bool} {I W : Nat → Nat → Int32} {J : Nat → Nat → Int64} {P : Nat → Nat → Nat} (hP : Pok P) {t : Nat} (ht : t ∈ TL) (hx5 : P 0 5 = t + 1) (hbt : P 56 0 = t + 1) {n : Nat} (hv : Vok (vB I 56) n) {x w k : Int32} (h : ¬ okO n x w k) (d : Nat) : xEx E ex (d + 1) yX10_order [.ref 0, .int x, .int w, .int k] (SH, wB I 80 W, J, P) (some (.int (-1))) (SH, wB I 80 W, J, P) := by
  refine x_enter cqX10_order [some (.ref 0), some (.int x), some (.int w), some (.int k)] rfl (by simp [lg_sl, Value.category]) ?_
  refine r_iload_n dX10_order_0 rfl ?_
  refine r_if_lt 32 dX10_order_1 (by decide) (fun c1 => ?_) (fun c1 => ?_)
  · refine r_iconst (v := (-1)) dX10_order_32 (by decide) ?_
    exact r_iret dX10_order_33 rfl rfl rfl rfl
  · refine r_iload_n dX10_order_4 rfl ?_
    refine r_iconst (v := 1) dX10_order_5 (by decide) ?_
    refine r_aload_n dX10_order_6 rfl ?_
    refine r_getR dX10_order_7 flX10_42 sh_0 (by decide) rfl (pf_0_7 hP) ?_
    refine r_getIv dX10_order_10 flX10_251 (br_s _ hb56) (by decide) rfl ((wB_o _ _ _ (Or.inl (by decide)) _).trans (show I 56 13 = nI n from hv.2.1)) ?_
    refine r_ishl dX10_order_13 ?_
    refine r_ic_ge 32 dX10_order_14 (by decide) (fun c14 => ?_) (fun c14 => ?_)
    · refine r_iconst (v := (-1)) dX10_order_32 (by decide) ?_
      exact r_iret dX10_order_33 rfl rfl rfl rfl
    · refine r_iload_n dX10_order_17 rfl ?_
      refine r_if_lt 32 dX10_order_18 (by decide) (fun c18 => ?_) (fun c18 => ?_)
      · refine r_iconst (v := (-1)) dX10_order_32 (by decide) ?_
        exact r_iret dX10_order_33 rfl rfl rfl rfl
      · refine r_iload_n dX10_order_21 rfl ?_
        refine r_sipush (v := 9999) dX10_order_22 (by decide) ?_
        refine r_ic_gt 32 dX10_order_25 (by decide) (fun c25 => ?_) (fun c25 => ?_)
        · refine r_iconst (v := (-1)) dX10_order_32 (by decide) ?_
          exact r_iret dX10_order_33 rfl rfl rfl rfl
        · refine r_iload_n dX10_order_28 rfl ?_
          refine r_if_ge 34 dX10_order_29 (by decide) (fun c29 => ?_) (fun c29 => ?_)
          · exact absurd ⟨c1, Int32.not_le.mp c14, c18, Int32.not_lt.mp c25, Int32.not_lt.mpr c29⟩ h
          · refine r_iconst (v := (-1)) dX10_order_32 (by decide) ?_
            exact r_iret dX10_order_33 rfl rfl rfl rfl
set_option maxHeartbeats 1000000 in
theorem k_order_t {E : xCl} {ex : Bool} {I W : Nat → Nat → Int32} {J : Nat → Nat → Int64} {P : Nat → Nat → Nat} (hP : Pok P) {t : Nat} (ht : t ∈ TL) (hx5 : P 0 5 = t + 1) (hbt : P 56 0 = t + 1) {n : Nat} (hv : Vok (vB I 56) n) {x w k : Int32} (h : okO n x w k) (hT : ¬ x &&& (sTB (vB I 56) n ^^^ (-1)) = 0) (d : Nat) : xEx E ex (d + 4) yX10_order [.ref 0, .int x, .int w, .int k] (SH, wB I 80 W, J, P) (some (.int (-1))) (SH, wB I 80 W, J, P) := by
  refine x_enter cqX10_order [some (.ref 0), some (.int x), some (.int w), some (.int k)] rfl (by simp [lg_sl, Value.category]) ?_
  refine r_iload_n dX10_order_0 rfl ?_
  refine r_if_lt 32 dX10_order_1 (by decide) (fun c1 => ?_) (fun c1 => ?_)
  · exact absurd c1 h.1
  · refine r_iload_n dX10_order_4 rfl ?_
    refine r_iconst (v := 1) dX10_order_5 (by decide) ?_
    refine r_aload_n dX10_order_6 rfl ?_
    refine r_getR dX10_order_7 flX10_42 sh_0 (by decide) rfl (pf_0_7 hP) ?_
    refine r_getIv dX10_order_10 flX10_251 (br_s _ hb56) (by decide) rfl ((wB_o _ _ _ (Or.inl (by decide)) _).trans (show I 56 13 = nI n from hv.2.1)) ?_
    refine r_ishl dX10_order_13 ?_
    refine r_ic_ge 32 dX10_order_14 (by decide) (fun c14 => ?_) (fun c14 => ?_)
    · exact absurd c14 (Int32.not_le.mpr h.2.1)
    · refine r_iload_n dX10_order_17 rfl ?_
      refine r_if_lt 32 dX10_order_18 (by decide) (fun c18 => ?_) (fun c18 => ?_)
      · exact absurd c18 h.2.2.1
      · refine r_iload_n dX10_order_21 rfl ?_
        refine r_sipush (v := 9999) dX10_order_22 (by decide) ?_
        refine r_ic_gt 32 dX10_order_25 (by decide) (fun c25 => ?_) (fun c25 => ?_)
        · exact absurd c25 (Int32.not_lt.mpr h.2.2.2.1)
        · refine r_iload_n dX10_order_28 rfl ?_
          refine r_if_ge 34 dX10_order_29 (by decide) (fun c29 => ?_) (fun c29 => ?_)
          · refine r_iload_n dX10_order_34 rfl ?_
            refine r_aload_n dX10_order_35 rfl ?_
            refine r_getR dX10_order_36 flX10_42 sh_0 (by decide) rfl (pf_0_7 hP) ?_
            refine r_cV0i dX10_order_39 vlX10_279 (br_s _ hb56) (Nat.le_of_ble_eq_true rfl) (by have z := k_thereBits (E := E) (ex := ex) (I := wB I 80 W) (V := vB I 56) (J := J) hP hb56 hv d; rw [st80] at z; exact z) ?_
            refine r_iconst (v := (-1)) dX10_order_42 (by decide) ?_
            refine r_ixor dX10_order_43 ?_
            refine r_iand dX10_order_44 ?_
            refine r_if_eq 50 dX10_order_45 (by decide) (fun c45 => ?_) (fun c45 => ?_)
            · exact absurd c45 hT
            · refine r_iconst (v := (-1)) dX10_order_48 (by decide) ?_
              exact r_iret dX10_order_49 rfl rfl rfl rfl
          · exact absurd (Int32.not_lt.mp h.2.2.2.2) c29
set_option maxHeartbeats 1000000 in
theorem k_order_k {E : xCl} {ex : Bool} {I W : Nat → Nat → Int32} {J : Nat → Nat → Int64} {P : Nat → Nat → Nat} (hP : Pok P) {t : Nat} (ht : t ∈ TL) (hx5 : P 0 5 = t + 1) (hbt : P 56 0 = t + 1) {n : Nat} (hv : Vok (vB I 56) n) {x w k : Int32} (h : okO n x w k) (hT : x &&& (sTB (vB I 56) n ^^^ (-1)) = 0) (hk : ¬ k < bC x) (d : Nat) : xEx E ex (d + 4) yX10_order [.ref 0, .int x, .int w, .int k] (SH, wB I 80 W, J, P) (some (.int (-2))) (SH, wB I 80 W, J, P) := by
  refine x_enter cqX10_order [some (.ref 0), some (.int x), some (.int w), some (.int k)] rfl (by simp [lg_sl, Value.category]) ?_
  refine r_iload_n dX10_order_0 rfl ?_
  refine r_if_lt 32 dX10_order_1 (by decide) (fun c1 => ?_) (fun c1 => ?_)
  · exact absurd c1 h.1
  · refine r_iload_n dX10_order_4 rfl ?_
    refine r_iconst (v := 1) dX10_order_5 (by decide) ?_
    refine r_aload_n dX10_order_6 rfl ?_
    refine r_getR dX10_order_7 flX10_42 sh_0 (by decide) rfl (pf_0_7 hP) ?_
    refine r_getIv dX10_order_10 flX10_251 (br_s _ hb56) (by decide) rfl ((wB_o _ _ _ (Or.inl (by decide)) _).trans (show I 56 13 = nI n from hv.2.1)) ?_
    refine r_ishl dX10_order_13 ?_
    refine r_ic_ge 32 dX10_order_14 (by decide) (fun c14 => ?_) (fun c14 => ?_)
    · exact absurd c14 (Int32.not_le.mpr h.2.1)
    · refine r_iload_n dX10_order_17 rfl ?_
      refine r_if_lt 32 dX10_order_18 (by decide) (fun c18 => ?_) (fun c18 => ?_)
      · exact absurd c18 h.2.2.1
      · refine r_iload_n dX10_order_21 rfl ?_
        refine r_sipush (v := 9999) dX10_order_22 (by decide) ?_
        refine r_ic_gt 32 dX10_order_25 (by decide) (fun c25 => ?_) (fun c25 => ?_)
        · exact absurd c25 (Int32.not_lt.mpr h.2.2.2.1)
        · refine r_iload_n dX10_order_28 rfl ?_
          refine r_if_ge 34 dX10_order_29 (by decide) (fun c29 => ?_) (fun c29 => ?_)
          · refine r_iload_n dX10_order_34 rfl ?_
            refine r_aload_n dX10_order_35 rfl ?_
            refine r_getR dX10_order_36 flX10_42 sh_0 (by decide) rfl (pf_0_7 hP) ?_
            refine r_cV0i dX10_order_39 vlX10_279 (br_s _ hb56) (Nat.le_of_ble_eq_true rfl) (by have z := k_thereBits (E := E) (ex := ex) (I := wB I 80 W) (V := vB I 56) (J := J) hP hb56 hv d; rw [st80] at z; exact z) ?_
            refine r_iconst (v := (-1)) dX10_order_42 (by decide) ?_
            refine r_ixor dX10_order_43 ?_
            refine r_iand dX10_order_44 ?_
            refine r_if_eq 50 dX10_order_45 (by decide) (fun c45 => ?_) (fun c45 => ?_)
            · refine r_iload_n dX10_order_50 rfl ?_
              refine r_iload_n dX10_order_51 rfl ?_
              refine r_cS1i dX10_order_52 slX10_282 (Nat.le_of_ble_eq_true rfl) (k_bitCount _ (d + 2)) ?_
              refine r_ic_lt 61 dX10_order_55 (by decide) (fun c55 => ?_) (fun c55 => ?_)
              · exact absurd c55 hk
              · refine r_bipush (v := (-2)) dX10_order_58 (by decide) ?_
                exact r_iret dX10_order_60 rfl rfl rfl rfl
            · exact absurd hT c45
          · exact absurd (Int32.not_lt.mp h.2.2.2.2) c29
set_option maxHeartbeats 4000000 in
theorem k_order {E : xCl} {ex : Bool} {I W : Nat → Nat → Int32} {J : Nat → Nat → Int64} {P : Nat → Nat → Nat} (hP : Pok P) {t : Nat} (ht : t ∈ TL) (hx5 : P 0 5 = t + 1) (hbt : P 56 0 = t + 1) {n : Nat} (hv : Vok (vB I 56) n) (hL : Lok I t) {A q : Nat} {w : Int32} (hA : A < 2 ^ n) (h : okO n (nI A) w (nI q)) (hT : nI A &&& (sTB (vB I 56) n ^^^ (-1)) = 0) (hN : ∀ i, A.testBit i = true → vB I 56 9 i = 0) (hk : nI q < bC (nI A)) (hq : q < pcT A 12) (d : Nat) : ∃ ch2 dd2 W2 J2, xEx E ex (d + 22) yX10_order [.ref 0, .int (nI A), .int w, .int (nI q)] (SH, wB I 80 W, J, P) (some (.int (sOr (cOk (vB I 56) (Lv (xu (xu I 103 2 (nI A)) 103 3 w) t) n w) A q))) (SH, wB (wC (xu (xu I 103 2 (nI A)) 103 3 w) ch2 dd2) 80 W2, J2, xu P 80 0 (t + 1)) ∧ Jok J J2 t := by
  have hpA := pcT_le A 12
  have key : ∃ r1 S1, xEx E ex (d + 21 + 1) yX10_order [.ref 0, .int (nI A), .int w, .int (nI q)] (SH, wB I 80 W, J, P) r1 S1 ∧ (r1 = some (.int (sOr (cOk (vB I 56) (Lv (xu (xu I 103 2 (nI A)) 103 3 w) t) n w) A q)) ∧ ∃ ch2 dd2 W2 J2, S1 = (SH, wB (wC (xu (xu I 103 2 (nI A)) 103 3 w) ch2 dd2) 80 W2, J2, xu P 80 0 (t + 1)) ∧ Jok J J2 t) := by
    refine x_enterq (Q := fun r1 S1 => r1 = some (.int (sOr (cOk (vB I 56) (Lv (xu (xu I 103 2 (nI A)) 103 3 w) t) n w) A q)) ∧ ∃ ch2 dd2 W2 J2, S1 = (SH, wB (wC (xu (xu I 103 2 (nI A)) 103 3 w) ch2 dd2) 80 W2, J2, xu P 80 0 (t + 1)) ∧ Jok J J2 t) (d := d + 21) cqX10_order [some (.ref 0), some (.int (nI A)), some (.int w), some (.int (nI q))] rfl (by simp [lg_sl, Value.category]) ?_
    refine r_iload_n dX10_order_0 rfl ?_
    refine r_if_lt 32 dX10_order_1 (by decide) (fun c1 => ?_) (fun c1 => ?_)
    · exact absurd c1 h.1
    · refine r_iload_n dX10_order_4 rfl ?_
      refine r_iconst (v := 1) dX10_order_5 (by decide) ?_
      refine r_aload_n dX10_order_6 rfl ?_
      refine r_getR dX10_order_7 flX10_42 sh_0 (by decide) rfl (pf_0_7 hP) ?_
      refine r_getIv dX10_order_10 flX10_251 (br_s _ hb56) (by decide) rfl ((wB_o _ _ _ (Or.inl (by decide)) _).trans (show I 56 13 = nI n from hv.2.1)) ?_
      refine r_ishl dX10_order_13 ?_
      refine r_ic_ge 32 dX10_order_14 (by decide) (fun c14 => ?_) (fun c14 => ?_)
      · exact absurd c14 (Int32.not_le.mpr h.2.1)
      · refine r_iload_n dX10_order_17 rfl ?_
        refine r_if_lt 32 dX10_order_18 (by decide) (fun c18 => ?_) (fun c18 => ?_)
        · exact absurd c18 h.2.2.1
        · refine r_iload_n dX10_order_21 rfl ?_
          refine r_sipush (v := 9999) dX10_order_22 (by decide) ?_
          refine r_ic_gt 32 dX10_order_25 (by decide) (fun c25 => ?_) (fun c25 => ?_)
          · exact absurd c25 (Int32.not_lt.mpr h.2.2.2.1)
          · refine r_iload_n dX10_order_28 rfl ?_
            refine r_if_ge 34 dX10_order_29 (by decide) (fun c29 => ?_) (fun c29 => ?_)
            · refine r_iload_n dX10_order_34 rfl ?_
              refine r_aload_n dX10_order_35 rfl ?_
              refine r_getR dX10_order_36 flX10_42 sh_0 (by decide) rfl (pf_0_7 hP) ?_
              refine r_cV0i dX10_order_39 vlX10_279 (br_s _ hb56) (Nat.le_of_ble_eq_true rfl) (by have z := k_thereBits (E := E) (ex := ex) (I := wB I 80 W) (V := vB I 56) (J := J) hP hb56 hv (d + 18); rw [st80] at z; exact z) ?_
              refine r_iconst (v := (-1)) dX10_order_42 (by decide) ?_
              refine r_ixor dX10_order_43 ?_
              refine r_iand dX10_order_44 ?_
              refine r_if_eq 50 dX10_order_45 (by decide) (fun c45 => ?_) (fun c45 => ?_)
              · refine r_iload_n dX10_order_50 rfl ?_
                refine r_iload_n dX10_order_51 rfl ?_
                refine r_cS1i dX10_order_52 slX10_282 (Nat.le_of_ble_eq_true rfl) (k_bitCount _ (d + 20)) ?_
                refine r_ic_lt 61 dX10_order_55 (by decide) (fun c55 => ?_) (fun c55 => ?_)
                · refine r_aload_n dX10_order_61 rfl ?_
                  refine r_getR dX10_order_62 flX10_48 sh_0 (by decide) rfl (pf_0_10 hP) ?_
                  refine r_aload_n dX10_order_65 rfl ?_
                  refine r_getR dX10_order_66 flX10_42 sh_0 (by decide) rfl (pf_0_7 hP) ?_
                  refine r_cV1v dX10_order_69 vlX10_119 (br_s _ hb80) (Nat.le_of_ble_eq_true rfl) (k_become (V := W) hP hb80 hb56 (by decide) ht hbt (d + 20)) ?_
                  have hP := hP.xb hb80 (t + 1); have hb8 : xu P 80 0 (t + 1) 80 0 = t + 1 := xu_s _ _ _ _; have hx5 : xu P 80 0 (t + 1) 0 5 = t + 1 := (xu_f _ _ (by decide)).trans hx5
                  refine r_aload_n dX10_order_72 rfl ?_
                  refine r_getR dX10_order_73 flX10_79 sh_0 (by decide) rfl (pf_0_17 hP) ?_
                  refine r_aload_n dX10_order_76 rfl ?_
                  refine r_getR dX10_order_77 flX10_48 sh_0 (by decide) rfl (pf_0_10 hP) ?_
                  refine r_iload_n dX10_order_80 rfl ?_
                  refine r_iload_n dX10_order_81 rfl ?_
                  obtain ⟨r1, S1, hx1, ⟨rfl, hE2, ch2, dd2, W2, J2, rfl, hj2, hpath⟩ | ⟨rfl, hnE, ch2, dd2, W2, J2, rfl, hj2⟩⟩ := k_search (E := E) (ex := ex) (I := I) (J := J) hP hv hA (fun z => by rw [z, show pcT 0 12 = 0 from by decide] at hq; omega) (w := w) rfl ht hb8 (Lok_of (fun f k hf => (xu_f _ _ (to103 t ht f hf)).trans (xu_f _ _ (to103 t ht f hf))) hL) hN d
                  · refine r_cV3i dX10_order_82 vlX10_287 sh_103 (Nat.le_of_ble_eq_true rfl) hx1 ?_
                    refine r_if_eq 100 dX10_order_85 (by decide) (fun c85 => ?_) (fun c85 => ?_)
                    · exact absurd c85 (by decide)
                    · refine r_aload_n dX10_order_88 rfl ?_
                      refine r_getR dX10_order_89 flX10_79 sh_0 (by decide) rfl (pf_0_17 hP) ?_
                      refine r_getR dX10_order_92 flX10_291 sh_103 (by decide) rfl (pf_103_0 hP) ?_
                      refine r_iload_n dX10_order_95 rfl ?_
                      refine r_ialv dX10_order_96 sh_104 (vp_in_nI (by omega) (by omega)) ((wB_o _ _ _ (br_x _ hb80 104 (by decide)) _).trans ((congrArg (wC _ ch2 dd2 104) (nI_clamp (n := q) (by omega))).trans (wC_c _ _ _ (by omega)))) ?_
                      refine r_goto 102 dX10_order_97 (by decide) ?_
                      exact r_iretq dX10_order_102 rfl rfl ⟨by rw [hpath q hq, sOr_t hE2], ch2, dd2, W2, J2, rfl, hj2⟩
                  · refine r_cV3i dX10_order_82 vlX10_287 sh_103 (Nat.le_of_ble_eq_true rfl) hx1 ?_
                    refine r_if_eq 100 dX10_order_85 (by decide) (fun c85 => ?_) (fun c85 => ?_)
                    · refine r_bipush (v := (-2)) dX10_order_100 (by decide) ?_
                      exact r_iretq dX10_order_102 rfl rfl ⟨by rw [sOr_f hnE], ch2, dd2, W2, J2, rfl, hj2⟩
                    · exact absurd c85 (by decide)
                · exact absurd hk c55
              · exact absurd hT c45
            · exact absurd (Int32.not_lt.mp h.2.2.2.2) c29
  obtain ⟨r1, S1, h1, h2, ch2, dd2, W2, J2, h3, h4⟩ := key
  subst h2; subst h3
  exact ⟨ch2, dd2, W2, J2, h1, h4⟩
