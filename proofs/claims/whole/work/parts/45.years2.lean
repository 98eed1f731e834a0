/-! years, sags, counts, the tape -/
def sYr (V : Nat → Nat → Int32) (Lw : Nat → (Nat → Int64) → Int64) (n : Nat) (T : Nat → Nat → Int32) (m : Nat) : Nat → Nat → Nat → Int32
  | 0 => V
  | j + 1 => sGo (sYr V Lw n T m j) Lw n T m (-1)
theorem Vok.yr {V : Nat → Nat → Int32} {n : Nat} (h : Vok V n) (Lw : Nat → (Nat → Int64) → Int64) (T : Nat → Nat → Int32) (m : Nat) : ∀ j, Vok (sYr V Lw n T m j) n
  | 0 => h
  | j + 1 => (Vok.yr h Lw T m j).go Lw T m (-1)
abbrev okN (V : Nat → Nat → Int32) (x : Int32) : Prop := ¬ x < 0 ∧ ¬ 99 < x ∧ V 15 0 + x ≤ 999
set_option maxHeartbeats 1000000 in
theorem k_years_n {E : xCl} {ex : Bool} {I V : Nat → Nat → Int32} {J : Nat → Nat → Int64} {P : Nat → Nat → Nat} (hP : Pok P) {t : Nat} (ht : t ∈ TL) (hx5 : P 0 5 = t + 1) (hbt : P 56 0 = t + 1) {x : Int32} (h : ¬ okN V x) (d : Nat) : xEx E ex (d + 1) yX10_years [.ref 0, .int x] (SH, wB I 56 V, J, P) (some (.int (-1))) (SH, wB I 56 V, J, P) := by
  refine x_enter cqX10_years [some (.ref 0), some (.int x), none] rfl (by simp [lg_sl, Value.category]) ?_
  refine r_iload_n dX10_years_0 rfl ?_
  refine r_if_lt 25 dX10_years_1 (by decide) (fun c1 => ?_) (fun c1 => ?_)
  · refine r_iconst (v := (-1)) dX10_years_25 (by decide) ?_
    exact r_iret dX10_years_26 rfl rfl rfl rfl
  · refine r_iload_n dX10_years_4 rfl ?_
    refine r_bipush (v := 99) dX10_years_5 (by decide) ?_
    refine r_ic_gt 25 dX10_years_7 (by decide) (fun c7 => ?_) (fun c7 => ?_)
    · refine r_iconst (v := (-1)) dX10_years_25 (by decide) ?_
      exact r_iret dX10_years_26 rfl rfl rfl rfl
    · refine r_aload_n dX10_years_10 rfl ?_
      refine r_getR dX10_years_11 flX10_42 sh_0 (by decide) rfl (pf_0_7 hP) ?_
      refine r_getIv dX10_years_14 flX10_273 (br_s _ hb56) (by decide) rfl (wB_i _ _ _ (by decide)) ?_
      refine r_iload_n dX10_years_17 rfl ?_
      refine r_iadd dX10_years_18 ?_
      refine r_sipush (v := 999) dX10_years_19 (by decide) ?_
      refine r_ic_le 27 dX10_years_22 (by decide) (fun c22 => ?_) (fun c22 => ?_)
      · exact absurd ⟨c1, c7, c22⟩ h
      · refine r_iconst (v := (-1)) dX10_years_25 (by decide) ?_
        exact r_iret dX10_years_26 rfl rfl rfl rfl
set_option maxHeartbeats 2000000 in
theorem l_years {E : xCl} {ex : Bool} {I V : Nat → Nat → Int32} {J : Nat → Nat → Int64} {P : Nat → Nat → Nat} (hP : Pok P) {t : Nat} (ht : t ∈ TL) (hx5 : P 0 5 = t + 1) (hbt : P 56 0 = t + 1) {n : Nat} (hv : Vok V n) (hL : Lok I t) {m : Nat} (hm : m ≤ 8) (hc : I t 7 = nI m) (hg : ∀ k, vp_in (I (t + 4) k) 6) {k : Nat} (hk : k ≤ 99) (d : Nat) : ∀ j, j ≤ k → ∀ J1, Jok J J1 t → xR (xEx E ex (d + 8)) ex none yX10_years cX10_years (some .int) 29 [some (.ref 0), some (.int (nI k)), some (.int (nI j))] [] (SH, wB I 56 (sYr V (Lv I t) n (fun o => I (t + o)) m j), J1, P) (Qj (wB (if k = 0 then I else xu I 0 13 0) 56 (sYr V (Lv I t) n (fun o => I (t + o)) m k)) J P t (some (.int ((sYr V (Lv I t) n (fun o => I (t + o)) m k) 15 0)))) := by
  refine r_for (fun j => ∀ J1, Jok J J1 t → xR (xEx E ex (d + 8)) ex none yX10_years cX10_years (some .int) 29 [some (.ref 0), some (.int (nI k)), some (.int (nI j))] [] (SH, wB I 56 (sYr V (Lv I t) n (fun o => I (t + o)) m j), J1, P) (Qj (wB (if k = 0 then I else xu I 0 13 0) 56 (sYr V (Lv I t) n (fun o => I (t + o)) m k)) J P t (some (.int ((sYr V (Lv I t) n (fun o => I (t + o)) m k) 15 0))))) _ ?_ ?_
  · intro j hj ih J1 hJ
    refine r_iload_n dX10_years_29 rfl ?_
    refine r_iload_n dX10_years_30 rfl ?_
    refine r_ic_ge 49 dX10_years_31 (by decide) (fun c31 => ?_) (fun c31 => ?_)
    · exact absurd c31 (nI_ge hj (by omega))
    · refine r_aload_n dX10_years_34 rfl ?_
      refine r_getR dX10_years_35 flX10_42 sh_0 (by decide) rfl (pf_0_7 hP) ?_
      refine r_iconst (v := (-1)) dX10_years_38 (by decide) ?_
      obtain ⟨J39, hx39, hj39⟩ := k_goYear (E := E) (ex := ex) (J := J1) hP hb56 ht hbt (hv.yr (Lv I t) (fun o => I (t + o)) m j) hL hm hc hg (-1) d
      refine r_cV1i dX10_years_39 vlX10_276 (br_s _ hb56) (Nat.le_of_ble_eq_true rfl) hx39 ?_
      refine r_pop dX10_years_42 rfl ?_
      refine r_iinc2 (v := 1) dX10_years_43 (by decide) rfl ?_
      refine r_goto 29 dX10_years_46 (by decide) ?_
      rw [nI_1]; exact ih _ (hJ.tr hj39)
  · intro J1 hJ
    refine r_iload_n dX10_years_29 rfl ?_
    refine r_iload_n dX10_years_30 rfl ?_
    refine r_ic_ge 49 dX10_years_31 (by decide) (fun c31 => ?_) (fun c31 => ?_)
    · refine r_iload_n dX10_years_49 rfl ?_
      refine r_if_le 57 dX10_years_50 (by decide) (fun c50 => ?_) (fun c50 => ?_)
      · refine r_aload_n dX10_years_57 rfl ?_
        refine r_getR dX10_years_58 flX10_42 sh_0 (by decide) rfl (pf_0_7 hP) ?_
        refine r_getIv dX10_years_61 flX10_273 (br_s _ hb56) (by decide) rfl (wB_i _ _ _ (by decide)) ?_
        exact r_iretq dX10_years_64 rfl rfl (by rw [if_pos (Classical.byContradiction (fun z => nI_nle (by omega) (by omega) c50))]; exact Qj.mk hJ)
      · refine r_aload_n dX10_years_53 rfl ?_
        refine r_cV0v dX10_years_54 vlX10_127 sh_0 (Nat.le_of_ble_eq_true rfl) (k_forgetActs (d + 7)) ?_
        refine r_aload_n dX10_years_57 rfl ?_
        refine r_getR dX10_years_58 flX10_42 sh_0 (by decide) rfl (pf_0_7 hP) ?_
        refine r_getIv dX10_years_61 flX10_273 (br_s _ hb56) (by decide) rfl (wB_i _ _ _ (by decide)) ?_
        exact r_iretq dX10_years_64 rfl rfl (by rw [if_neg (fun z => c50 (by rw [z]; decide))]; exact Qj.mk hJ)
    · exact absurd (nI_le (Nat.le_refl _) (by omega)) c31
set_option maxHeartbeats 1000000 in
theorem k_years {E : xCl} {ex : Bool} {I V : Nat → Nat → Int32} {J : Nat → Nat → Int64} {P : Nat → Nat → Nat} (hP : Pok P) {t : Nat} (ht : t ∈ TL) (hx5 : P 0 5 = t + 1) (hbt : P 56 0 = t + 1) {n : Nat} (hv : Vok V n) (hL : Lok I t) {m : Nat} (hm : m ≤ 8) (hc : I t 7 = nI m) (hg : ∀ k, vp_in (I (t + 4) k) 6) {k : Nat} (hk : k ≤ 99) (hy : V 15 0 + nI k ≤ 999) (d : Nat) : ∃ J', xEx E ex (d + 9) yX10_years [.ref 0, .int (nI k)] (SH, wB I 56 V, J, P) (some (.int ((sYr V (Lv I t) n (fun o => I (t + o)) m k) 15 0))) (SH, wB (if k = 0 then I else xu I 0 13 0) 56 (sYr V (Lv I t) n (fun o => I (t + o)) m k), J', P) ∧ Jok J J' t := by
  refine Qj.use (x_enterq (d := d + 8) cqX10_years [some (.ref 0), some (.int (nI k)), none] rfl (by simp [lg_sl, Value.category]) ?_)
  refine r_iload_n dX10_years_0 rfl ?_
  refine r_if_lt 25 dX10_years_1 (by decide) (fun c1 => ?_) (fun c1 => ?_)
  · exact absurd c1 (nI_pos (by omega))
  · refine r_iload_n dX10_years_4 rfl ?_
    refine r_bipush (v := 99) dX10_years_5 (by decide) ?_
    refine r_ic_gt 25 dX10_years_7 (by decide) (fun c7 => ?_) (fun c7 => ?_)
    · exact absurd c7 (nI_nlt (a := 99) (b := k) hk (by omega))
    · refine r_aload_n dX10_years_10 rfl ?_
      refine r_getR dX10_years_11 flX10_42 sh_0 (by decide) rfl (pf_0_7 hP) ?_
      refine r_getIv dX10_years_14 flX10_273 (br_s _ hb56) (by decide) rfl (wB_i _ _ _ (by decide)) ?_
      refine r_iload_n dX10_years_17 rfl ?_
      refine r_iadd dX10_years_18 ?_
      refine r_sipush (v := 999) dX10_years_19 (by decide) ?_
      refine r_ic_le 27 dX10_years_22 (by decide) (fun c22 => ?_) (fun c22 => ?_)
      · refine r_iconst (v := 0) dX10_years_27 (by decide) ?_
        refine r_istore_n2 dX10_years_28 rfl ?_
        exact l_years hP ht hx5 hbt hv hL hm hc hg hk d 0 (Nat.zero_le k) J (Jok.rf J t)
      · exact absurd hy c22
abbrev okS (x1 x2 x3 : Int32) : Prop := ¬ x1 < 0 ∧ ¬ 50 < x1 ∧ ¬ x2 < 1 ∧ ¬ 999 < x2 ∧ ¬ x3 < 0 ∧ x3 ≤ 9999
set_option maxHeartbeats 1000000 in
theorem k_see_n {E : xCl} {ex : Bool} {I : Nat → Nat → Int32} {J : Nat → Nat → Int64} {P : Nat → Nat → Nat} {x1 x2 x3 : Int32} (x4 : Int32) (h : ¬ okS x1 x2 x3) (d : Nat) : xEx E ex (d + 1) yX10_see [.ref 0, .int x1, .int x2, .int x3, .int x4] (SH, I, J, P) (some (.int (-1))) (SH, I, J, P) := by
  refine x_enter cqX10_see [some (.ref 0), some (.int x1), some (.int x2), some (.int x3), some (.int x4), none] rfl (by simp [lg_sl, Value.category]) ?_
  refine r_iload_n dX10_see_0 rfl ?_
  refine r_if_lt 26 dX10_see_1 (by decide) (fun c1 => ?_) (fun c1 => ?_)
  · refine r_iconst (v := 0) dX10_see_26 (by decide) ?_
    refine r_istore5 dX10_see_27 rfl ?_
    refine r_iload dX10_see_29 rfl ?_
    refine r_if_eq 45 dX10_see_31 (by decide) (fun c31 => ?_) (fun c31 => ?_)
    · refine r_iconst (v := (-1)) dX10_see_45 (by decide) ?_
      exact r_iret dX10_see_46 rfl rfl rfl rfl
    · exact absurd c31 (by decide)
  · refine r_iload_n dX10_see_4 rfl ?_
    refine r_bipush (v := 50) dX10_see_5 (by decide) ?_
    refine r_ic_gt 26 dX10_see_7 (by decide) (fun c7 => ?_) (fun c7 => ?_)
    · refine r_iconst (v := 0) dX10_see_26 (by decide) ?_
      refine r_istore5 dX10_see_27 rfl ?_
      refine r_iload dX10_see_29 rfl ?_
      refine r_if_eq 45 dX10_see_31 (by decide) (fun c31 => ?_) (fun c31 => ?_)
      · refine r_iconst (v := (-1)) dX10_see_45 (by decide) ?_
        exact r_iret dX10_see_46 rfl rfl rfl rfl
      · exact absurd c31 (by decide)
    · refine r_iload_n dX10_see_10 rfl ?_
      refine r_iconst (v := 1) dX10_see_11 (by decide) ?_
      refine r_ic_lt 26 dX10_see_12 (by decide) (fun c12 => ?_) (fun c12 => ?_)
      · refine r_iconst (v := 0) dX10_see_26 (by decide) ?_
        refine r_istore5 dX10_see_27 rfl ?_
        refine r_iload dX10_see_29 rfl ?_
        refine r_if_eq 45 dX10_see_31 (by decide) (fun c31 => ?_) (fun c31 => ?_)
        · refine r_iconst (v := (-1)) dX10_see_45 (by decide) ?_
          exact r_iret dX10_see_46 rfl rfl rfl rfl
        · exact absurd c31 (by decide)
      · refine r_iload_n dX10_see_15 rfl ?_
        refine r_sipush (v := 999) dX10_see_16 (by decide) ?_
        refine r_ic_gt 26 dX10_see_19 (by decide) (fun c19 => ?_) (fun c19 => ?_)
        · refine r_iconst (v := 0) dX10_see_26 (by decide) ?_
          refine r_istore5 dX10_see_27 rfl ?_
          refine r_iload dX10_see_29 rfl ?_
          refine r_if_eq 45 dX10_see_31 (by decide) (fun c31 => ?_) (fun c31 => ?_)
          · refine r_iconst (v := (-1)) dX10_see_45 (by decide) ?_
            exact r_iret dX10_see_46 rfl rfl rfl rfl
          · exact absurd c31 (by decide)
        · refine r_iconst (v := 1) dX10_see_22 (by decide) ?_
          refine r_goto 27 dX10_see_23 (by decide) ?_
          refine r_istore5 dX10_see_27 rfl ?_
          refine r_iload dX10_see_29 rfl ?_
          refine r_if_eq 45 dX10_see_31 (by decide) (fun c31 => ?_) (fun c31 => ?_)
          · exact absurd c31 (by decide)
          · refine r_iload_n dX10_see_34 rfl ?_
            refine r_if_lt 45 dX10_see_35 (by decide) (fun c35 => ?_) (fun c35 => ?_)
            · refine r_iconst (v := (-1)) dX10_see_45 (by decide) ?_
              exact r_iret dX10_see_46 rfl rfl rfl rfl
            · refine r_iload_n dX10_see_38 rfl ?_
              refine r_sipush (v := 9999) dX10_see_39 (by decide) ?_
              refine r_ic_le 47 dX10_see_42 (by decide) (fun c42 => ?_) (fun c42 => ?_)
              · exact absurd ⟨c1, c7, c12, c19, c35, c42⟩ h
              · refine r_iconst (v := (-1)) dX10_see_45 (by decide) ?_
                exact r_iret dX10_see_46 rfl rfl rfl rfl
set_option maxHeartbeats 1000000 in
theorem k_see_t {E : xCl} {ex : Bool} {I : Nat → Nat → Int32} {J : Nat → Nat → Int64} {P : Nat → Nat → Nat} (hP : Pok P) {s : Nat} (hs : s < 24) (h4 : I 93 4 = nI s) {x1 x2 x3 : Int32} (x4 : Int32) (h : okS x1 x2 x3) (d : Nat) : xEx E ex (d + 2) yX10_see [.ref 0, .int x1, .int x2, .int x3, .int x4] (SH, I, J, P) (some (.int (nI s))) (SH, sPut I s x1 x2 x3 (if x4 = 0 then 0 else 1), J, P) := by
  refine x_enter cqX10_see [some (.ref 0), some (.int x1), some (.int x2), some (.int x3), some (.int x4), none] rfl (by simp [lg_sl, Value.category]) ?_
  refine r_iload_n dX10_see_0 rfl ?_
  refine r_if_lt 26 dX10_see_1 (by decide) (fun c1 => ?_) (fun c1 => ?_)
  · exact absurd c1 h.1
  · refine r_iload_n dX10_see_4 rfl ?_
    refine r_bipush (v := 50) dX10_see_5 (by decide) ?_
    refine r_ic_gt 26 dX10_see_7 (by decide) (fun c7 => ?_) (fun c7 => ?_)
    · exact absurd c7 h.2.1
    · refine r_iload_n dX10_see_10 rfl ?_
      refine r_iconst (v := 1) dX10_see_11 (by decide) ?_
      refine r_ic_lt 26 dX10_see_12 (by decide) (fun c12 => ?_) (fun c12 => ?_)
      · exact absurd c12 h.2.2.1
      · refine r_iload_n dX10_see_15 rfl ?_
        refine r_sipush (v := 999) dX10_see_16 (by decide) ?_
        refine r_ic_gt 26 dX10_see_19 (by decide) (fun c19 => ?_) (fun c19 => ?_)
        · exact absurd c19 h.2.2.2.1
        · refine r_iconst (v := 1) dX10_see_22 (by decide) ?_
          refine r_goto 27 dX10_see_23 (by decide) ?_
          refine r_istore5 dX10_see_27 rfl ?_
          refine r_iload dX10_see_29 rfl ?_
          refine r_if_eq 45 dX10_see_31 (by decide) (fun c31 => ?_) (fun c31 => ?_)
          · exact absurd c31 (by decide)
          · refine r_iload_n dX10_see_34 rfl ?_
            refine r_if_lt 45 dX10_see_35 (by decide) (fun c35 => ?_) (fun c35 => ?_)
            · exact absurd c35 h.2.2.2.2.1
            · refine r_iload_n dX10_see_38 rfl ?_
              refine r_sipush (v := 9999) dX10_see_39 (by decide) ?_
              refine r_ic_le 47 dX10_see_42 (by decide) (fun c42 => ?_) (fun c42 => ?_)
              · refine r_aload_n dX10_see_47 rfl ?_
                refine r_getR dX10_see_48 flX10_58 sh_0 (by decide) rfl (pf_0_14 hP) ?_
                refine r_iload_n dX10_see_51 rfl ?_
                refine r_iload_n dX10_see_52 rfl ?_
                refine r_iload_n dX10_see_53 rfl ?_
                refine r_iload dX10_see_54 rfl ?_
                refine r_if_eq 63 dX10_see_56 (by decide) (fun c56 => ?_) (fun c56 => ?_)
                · refine r_iconst (v := 0) dX10_see_63 (by decide) ?_
                  refine r_cV4i dX10_see_64 vlX10_328 sh_93 (Nat.le_of_ble_eq_true rfl) (k_put_t hP hs h4 _ _ _ _ d) ?_
                  exact r_iret dX10_see_67 rfl rfl rfl (by rw [if_pos c56])
                · refine r_iconst (v := 1) dX10_see_59 (by decide) ?_
                  refine r_goto 64 dX10_see_60 (by decide) ?_
                  refine r_cV4i dX10_see_64 vlX10_328 sh_93 (Nat.le_of_ble_eq_true rfl) (k_put_t hP hs h4 _ _ _ _ d) ?_
                  exact r_iret dX10_see_67 rfl rfl rfl (by rw [if_neg c56])
              · exact absurd h.2.2.2.2.2 c42
set_option maxHeartbeats 1000000 in
theorem k_see_f {E : xCl} {ex : Bool} {I : Nat → Nat → Int32} {J : Nat → Nat → Int64} {P : Nat → Nat → Nat} (hP : Pok P) (h4 : I 93 4 = nI 24) {x1 x2 x3 : Int32} (x4 : Int32) (h : okS x1 x2 x3) (d : Nat) : xEx E ex (d + 2) yX10_see [.ref 0, .int x1, .int x2, .int x3, .int x4] (SH, I, J, P) (some (.int (-1))) (SH, I, J, P) := by
  refine x_enter cqX10_see [some (.ref 0), some (.int x1), some (.int x2), some (.int x3), some (.int x4), none] rfl (by simp [lg_sl, Value.category]) ?_
  refine r_iload_n dX10_see_0 rfl ?_
  refine r_if_lt 26 dX10_see_1 (by decide) (fun c1 => ?_) (fun c1 => ?_)
  · exact absurd c1 h.1
  · refine r_iload_n dX10_see_4 rfl ?_
    refine r_bipush (v := 50) dX10_see_5 (by decide) ?_
    refine r_ic_gt 26 dX10_see_7 (by decide) (fun c7 => ?_) (fun c7 => ?_)
    · exact absurd c7 h.2.1
    · refine r_iload_n dX10_see_10 rfl ?_
      refine r_iconst (v := 1) dX10_see_11 (by decide) ?_
      refine r_ic_lt 26 dX10_see_12 (by decide) (fun c12 => ?_) (fun c12 => ?_)
      · exact absurd c12 h.2.2.1
      · refine r_iload_n dX10_see_15 rfl ?_
        refine r_sipush (v := 999) dX10_see_16 (by decide) ?_
        refine r_ic_gt 26 dX10_see_19 (by decide) (fun c19 => ?_) (fun c19 => ?_)
        · exact absurd c19 h.2.2.2.1
        · refine r_iconst (v := 1) dX10_see_22 (by decide) ?_
          refine r_goto 27 dX10_see_23 (by decide) ?_
          refine r_istore5 dX10_see_27 rfl ?_
          refine r_iload dX10_see_29 rfl ?_
          refine r_if_eq 45 dX10_see_31 (by decide) (fun c31 => ?_) (fun c31 => ?_)
          · exact absurd c31 (by decide)
          · refine r_iload_n dX10_see_34 rfl ?_
            refine r_if_lt 45 dX10_see_35 (by decide) (fun c35 => ?_) (fun c35 => ?_)
            · exact absurd c35 h.2.2.2.2.1
            · refine r_iload_n dX10_see_38 rfl ?_
              refine r_sipush (v := 9999) dX10_see_39 (by decide) ?_
              refine r_ic_le 47 dX10_see_42 (by decide) (fun c42 => ?_) (fun c42 => ?_)
              · refine r_aload_n dX10_see_47 rfl ?_
                refine r_getR dX10_see_48 flX10_58 sh_0 (by decide) rfl (pf_0_14 hP) ?_
                refine r_iload_n dX10_see_51 rfl ?_
                refine r_iload_n dX10_see_52 rfl ?_
                refine r_iload_n dX10_see_53 rfl ?_
                refine r_iload dX10_see_54 rfl ?_
                refine r_if_eq 63 dX10_see_56 (by decide) (fun c56 => ?_) (fun c56 => ?_)
                · refine r_iconst (v := 0) dX10_see_63 (by decide) ?_
                  refine r_cV4i dX10_see_64 vlX10_328 sh_93 (Nat.le_of_ble_eq_true rfl) (k_put_f h4 _ _ _ _ d) ?_
                  exact r_iret dX10_see_67 rfl rfl rfl rfl
                · refine r_iconst (v := 1) dX10_see_59 (by decide) ?_
                  refine r_goto 64 dX10_see_60 (by decide) ?_
                  refine r_cV4i dX10_see_64 vlX10_328 sh_93 (Nat.le_of_ble_eq_true rfl) (k_put_f h4 _ _ _ _ d) ?_
                  exact r_iret dX10_see_67 rfl rfl rfl rfl
              · exact absurd h.2.2.2.2.2 c42
set_option maxHeartbeats 1000000 in
theorem k_strikes_n {E : xCl} {ex : Bool} {I : Nat → Nat → Int32} {J : Nat → Nat → Int64} {P : Nat → Nat → Nat} (hP : Pok P) {x : Int32} (h : ¬ (¬ x < 0 ∧ x < I 93 4)) (d : Nat) : xEx E ex (d + 1) yX10_strikes [.ref 0, .int x] (SH, I, J, P) (some (.int (-1))) (SH, I, J, P) := by
  refine x_enter cqX10_strikes [some (.ref 0), some (.int x)] rfl (by simp [lg_sl, Value.category]) ?_
  refine r_iload_n dX10_strikes_0 rfl ?_
  refine r_if_lt 15 dX10_strikes_1 (by decide) (fun c1 => ?_) (fun c1 => ?_)
  · refine r_iconst (v := (-1)) dX10_strikes_15 (by decide) ?_
    exact r_iret dX10_strikes_16 rfl rfl rfl rfl
  · refine r_iload_n dX10_strikes_4 rfl ?_
    refine r_aload_n dX10_strikes_5 rfl ?_
    refine r_getR dX10_strikes_6 flX10_58 sh_0 (by decide) rfl (pf_0_14 hP) ?_
    refine r_getI dX10_strikes_9 flX10_332 sh_93 (by decide) rfl ?_
    refine r_ic_lt 17 dX10_strikes_12 (by decide) (fun c12 => ?_) (fun c12 => ?_)
    · exact absurd ⟨c1, c12⟩ h
    · refine r_iconst (v := (-1)) dX10_strikes_15 (by decide) ?_
      exact r_iret dX10_strikes_16 rfl rfl rfl rfl
set_option maxHeartbeats 1000000 in
theorem k_strikes_t {E : xCl} {ex : Bool} {I : Nat → Nat → Int32} {J : Nat → Nat → Int64} {P : Nat → Nat → Nat} (hP : Pok P) {s : Nat} (hs : s < 24) (h4 : I 93 4 = nI s) {x : Int32} (h : ¬ x < 0 ∧ x < I 93 4) (d : Nat) : xEx E ex (d + 2) yX10_strikes [.ref 0, .int x] (SH, I, J, P) (some (.int (nI s))) (SH, sPut I s x 0 0 2, J, P) := by
  refine x_enter cqX10_strikes [some (.ref 0), some (.int x)] rfl (by simp [lg_sl, Value.category]) ?_
  refine r_iload_n dX10_strikes_0 rfl ?_
  refine r_if_lt 15 dX10_strikes_1 (by decide) (fun c1 => ?_) (fun c1 => ?_)
  · exact absurd c1 h.1
  · refine r_iload_n dX10_strikes_4 rfl ?_
    refine r_aload_n dX10_strikes_5 rfl ?_
    refine r_getR dX10_strikes_6 flX10_58 sh_0 (by decide) rfl (pf_0_14 hP) ?_
    refine r_getI dX10_strikes_9 flX10_332 sh_93 (by decide) rfl ?_
    refine r_ic_lt 17 dX10_strikes_12 (by decide) (fun c12 => ?_) (fun c12 => ?_)
    · refine r_aload_n dX10_strikes_17 rfl ?_
      refine r_getR dX10_strikes_18 flX10_58 sh_0 (by decide) rfl (pf_0_14 hP) ?_
      refine r_iload_n dX10_strikes_21 rfl ?_
      refine r_iconst (v := 0) dX10_strikes_22 (by decide) ?_
      refine r_iconst (v := 0) dX10_strikes_23 (by decide) ?_
      refine r_iconst (v := 2) dX10_strikes_24 (by decide) ?_
      refine r_cV4i dX10_strikes_25 vlX10_328 sh_93 (Nat.le_of_ble_eq_true rfl) (k_put_t hP hs h4 _ _ _ _ d) ?_
      exact r_iret dX10_strikes_28 rfl rfl rfl rfl
    · exact absurd h.2 c12
set_option maxHeartbeats 1000000 in
theorem k_strikes_f {E : xCl} {ex : Bool} {I : Nat → Nat → Int32} {J : Nat → Nat → Int64} {P : Nat → Nat → Nat} (hP : Pok P) (h4 : I 93 4 = nI 24) {x : Int32} (h : ¬ x < 0 ∧ x < I 93 4) (d : Nat) : xEx E ex (d + 2) yX10_strikes [.ref 0, .int x] (SH, I, J, P) (some (.int (-1))) (SH, I, J, P) := by
  refine x_enter cqX10_strikes [some (.ref 0), some (.int x)] rfl (by simp [lg_sl, Value.category]) ?_
  refine r_iload_n dX10_strikes_0 rfl ?_
  refine r_if_lt 15 dX10_strikes_1 (by decide) (fun c1 => ?_) (fun c1 => ?_)
  · exact absurd c1 h.1
  · refine r_iload_n dX10_strikes_4 rfl ?_
    refine r_aload_n dX10_strikes_5 rfl ?_
    refine r_getR dX10_strikes_6 flX10_58 sh_0 (by decide) rfl (pf_0_14 hP) ?_
    refine r_getI dX10_strikes_9 flX10_332 sh_93 (by decide) rfl ?_
    refine r_ic_lt 17 dX10_strikes_12 (by decide) (fun c12 => ?_) (fun c12 => ?_)
    · refine r_aload_n dX10_strikes_17 rfl ?_
      refine r_getR dX10_strikes_18 flX10_58 sh_0 (by decide) rfl (pf_0_14 hP) ?_
      refine r_iload_n dX10_strikes_21 rfl ?_
      refine r_iconst (v := 0) dX10_strikes_22 (by decide) ?_
      refine r_iconst (v := 0) dX10_strikes_23 (by decide) ?_
      refine r_iconst (v := 2) dX10_strikes_24 (by decide) ?_
      refine r_cV4i dX10_strikes_25 vlX10_328 sh_93 (Nat.le_of_ble_eq_true rfl) (k_put_f h4 _ _ _ _ d) ?_
      exact r_iret dX10_strikes_28 rfl rfl rfl rfl
    · exact absurd h.2 c12
set_option maxHeartbeats 1000000 in
theorem k_known_f {E : xCl} {ex : Bool} {I : Nat → Nat → Int32} {J : Nat → Nat → Int64} {P : Nat → Nat → Nat} (hP : Pok P) {x : Int32} (h : ¬ (¬ x < -1 ∧ x ≤ I 93 4)) (d : Nat) : xEx E ex (d + 1) yX10_known [.ref 0, .int x] (SH, I, J, P) (some (.int 0)) (SH, I, J, P) := by
  refine x_enter cqX10_known [some (.ref 0), some (.int x)] rfl (by simp [lg_sl, Value.category]) ?_
  refine r_iload_n dX10_known_0 rfl ?_
  refine r_iconst (v := (-1)) dX10_known_1 (by decide) ?_
  refine r_ic_lt 16 dX10_known_2 (by decide) (fun c2 => ?_) (fun c2 => ?_)
  · refine r_iconst (v := 0) dX10_known_16 (by decide) ?_
    exact r_iret dX10_known_17 rfl rfl rfl rfl
  · refine r_iload_n dX10_known_5 rfl ?_
    refine r_aload_n dX10_known_6 rfl ?_
    refine r_getR dX10_known_7 flX10_58 sh_0 (by decide) rfl (pf_0_14 hP) ?_
    refine r_getI dX10_known_10 flX10_332 sh_93 (by decide) rfl ?_
    refine r_ic_le 18 dX10_known_13 (by decide) (fun c13 => ?_) (fun c13 => ?_)
    · exact absurd ⟨c2, c13⟩ h
    · refine r_iconst (v := 0) dX10_known_16 (by decide) ?_
      exact r_iret dX10_known_17 rfl rfl rfl rfl
set_option maxHeartbeats 1000000 in
theorem k_known_t {E : xCl} {ex : Bool} {I : Nat → Nat → Int32} {J : Nat → Nat → Int64} {P : Nat → Nat → Nat} (hP : Pok P) {x : Int32} (h : ¬ x < -1 ∧ x ≤ I 93 4) (d : Nat) : xEx E ex (d + 1) yX10_known [.ref 0, .int x] (SH, I, J, P) (some (.int 1)) (SH, xu I 93 5 x, J, P) := by
  refine x_enter cqX10_known [some (.ref 0), some (.int x)] rfl (by simp [lg_sl, Value.category]) ?_
  refine r_iload_n dX10_known_0 rfl ?_
  refine r_iconst (v := (-1)) dX10_known_1 (by decide) ?_
  refine r_ic_lt 16 dX10_known_2 (by decide) (fun c2 => ?_) (fun c2 => ?_)
  · exact absurd c2 h.1
  · refine r_iload_n dX10_known_5 rfl ?_
    refine r_aload_n dX10_known_6 rfl ?_
    refine r_getR dX10_known_7 flX10_58 sh_0 (by decide) rfl (pf_0_14 hP) ?_
    refine r_getI dX10_known_10 flX10_332 sh_93 (by decide) rfl ?_
    refine r_ic_le 18 dX10_known_13 (by decide) (fun c13 => ?_) (fun c13 => ?_)
    · refine r_aload_n dX10_known_18 rfl ?_
      refine r_getR dX10_known_19 flX10_58 sh_0 (by decide) rfl (pf_0_14 hP) ?_
      refine r_iload_n dX10_known_22 rfl ?_
      refine r_putI dX10_known_23 flX10_335 ⟨_, _, _, rfl, Or.inl rfl⟩ sh_93 (by decide) rfl rfl rfl ?_
      refine r_iconst (v := 1) dX10_known_26 (by decide) ?_
      exact r_iret dX10_known_27 rfl rfl rfl rfl
    · exact absurd h.2 c13
abbrev okW (V : Nat → Nat → Int32) (w s : Int32) : Prop := ¬ w < 0 ∧ ¬ 3 ≤ w ∧ sTh V s
set_option maxHeartbeats 1000000 in
theorem k_law_n {E : xCl} {ex : Bool} {I V : Nat → Nat → Int32} {J : Nat → Nat → Int64} {P : Nat → Nat → Nat} (hP : Pok P) {t : Nat} (ht : t ∈ TL) (hx5 : P 0 5 = t + 1) (hbt : P 56 0 = t + 1) {w s : Int32} (h : ¬ okW V w s) (d : Nat) : xEx E ex (d + 3) yX10_law [.ref 0, .int w, .int s] (SH, wB I 56 V, J, P) (some (.long (-9223372036854775808))) (SH, wB I 56 V, J, P) := by
  refine x_enter cqX10_law [some (.ref 0), some (.int w), some (.int s)] rfl (by simp [lg_sl, Value.category]) ?_
  refine r_iload_n dX10_law_0 rfl ?_
  refine r_if_lt 20 dX10_law_1 (by decide) (fun c1 => ?_) (fun c1 => ?_)
  · refine r_ldc2_w dX10_law_20 kcX10_225 ?_
    exact r_lret dX10_law_23 rfl rfl rfl
  · refine r_iload_n dX10_law_4 rfl ?_
    refine r_iconst (v := 3) dX10_law_5 (by decide) ?_
    refine r_ic_ge 20 dX10_law_6 (by decide) (fun c6 => ?_) (fun c6 => ?_)
    · refine r_ldc2_w dX10_law_20 kcX10_225 ?_
      exact r_lret dX10_law_23 rfl rfl rfl
    · refine r_aload_n dX10_law_9 rfl ?_
      refine r_getR dX10_law_10 flX10_42 sh_0 (by decide) rfl (pf_0_7 hP) ?_
      refine r_iload_n dX10_law_13 rfl ?_
      by_cases h14 : sTh V s
      · refine r_cV1i dX10_law_14 vlX10_220 (br_s _ hb56) (Nat.le_of_ble_eq_true rfl) (k_isThere_t hP hb56 h14 d) ?_
        refine r_if_ne 24 dX10_law_17 (by decide) (fun c17 => ?_) (fun c17 => ?_)
        · exact absurd ⟨c1, c6, h14⟩ h
        · exact absurd c17 (by decide)
      · refine r_cV1i dX10_law_14 vlX10_220 (br_s _ hb56) (Nat.le_of_ble_eq_true rfl) (k_isThere_f hP hb56 h14 d) ?_
        refine r_if_ne 24 dX10_law_17 (by decide) (fun c17 => ?_) (fun c17 => ?_)
        · exact absurd c17 (by decide)
        · refine r_ldc2_w dX10_law_20 kcX10_225 ?_
          exact r_lret dX10_law_23 rfl rfl rfl
theorem in3 {w : Int32} (h0 : ¬ w < 0) (h1 : ¬ 3 ≤ w) : vp_in w 3 := vin h0 h1 rfl
theorem Lok.at {I : Nat → Nat → Int32} {t : Nat} (h : Lok I t) {w : Int32} (h3 : vp_in w 3) : LwOk I t w.toNatClampNeg := by
  have := vlt h3
  match w.toNatClampNeg, this with
  | 0, _ => exact h.1
  | 1, _ => exact h.2.1
  | 2, _ => exact h.2.2
  | k + 3, q => omega
set_option maxHeartbeats 1000000 in
theorem k_law_t {E : xCl} {ex : Bool} {I V : Nat → Nat → Int32} {J : Nat → Nat → Int64} {P : Nat → Nat → Nat} (hP : Pok P) {t : Nat} (ht : t ∈ TL) (hx5 : P 0 5 = t + 1) (hbt : P 56 0 = t + 1) {n : Nat} (hv : Vok V n) (hL : Lok I t) {w s : Int32} (h : okW V w s) (d : Nat) : ∃ J', xEx E ex (d + 4) yX10_law [.ref 0, .int w, .int s] (SH, wB I 56 V, J, P) (some (.long (Lv I t w.toNatClampNeg (sNm V s (sTwo V s))))) (SH, wB I 56 V, J', P) ∧ Jok J J' t := by
  refine Qj.use (x_enterq (d := d + 3) cqX10_law [some (.ref 0), some (.int w), some (.int s)] rfl (by simp [lg_sl, Value.category]) ?_)
  refine r_iload_n dX10_law_0 rfl ?_
  refine r_if_lt 20 dX10_law_1 (by decide) (fun c1 => ?_) (fun c1 => ?_)
  · exact absurd c1 h.1
  · refine r_iload_n dX10_law_4 rfl ?_
    refine r_iconst (v := 3) dX10_law_5 (by decide) ?_
    refine r_ic_ge 20 dX10_law_6 (by decide) (fun c6 => ?_) (fun c6 => ?_)
    · exact absurd c6 h.2.1
    · refine r_aload_n dX10_law_9 rfl ?_
      refine r_getR dX10_law_10 flX10_42 sh_0 (by decide) rfl (pf_0_7 hP) ?_
      refine r_iload_n dX10_law_13 rfl ?_
      refine r_cV1i dX10_law_14 vlX10_220 (br_s _ hb56) (Nat.le_of_ble_eq_true rfl) (k_isThere_t hP hb56 h.2.2 (d + 1)) ?_
      refine r_if_ne 24 dX10_law_17 (by decide) (fun c17 => ?_) (fun c17 => ?_)
      · refine r_aload_n dX10_law_24 rfl ?_
        refine r_getR dX10_law_25 flX10_42 sh_0 (by decide) rfl (pf_0_7 hP) ?_
        refine r_iload_n dX10_law_28 rfl ?_
        refine r_aload_n dX10_law_29 rfl ?_
        refine r_getR dX10_law_30 flX10_42 sh_0 (by decide) rfl (pf_0_7 hP) ?_
        refine r_iload_n dX10_law_33 rfl ?_
        refine r_cV1i dX10_law_34 vlX10_193 (br_s _ hb56) (Nat.le_of_ble_eq_true rfl) (k_twoOf hP hb56 h.2.2.in d) ?_
        refine r_cV2v dX10_law_37 vlX10_227 (br_s _ hb56) (Nat.le_of_ble_eq_true rfl) (k_measure hP hb56 ht hbt hv h.2.2.in _ (d + 1)) ?_
        refine r_aload_n dX10_law_40 rfl ?_
        refine r_getR dX10_law_41 flX10_29 sh_0 (by decide) rfl hx5 ?_
        refine r_getR dX10_law_44 flX10_231 (tl_s _ ht) (by decide) rfl (tl_p8 hP _ ht) ?_
        refine r_iload_n dX10_law_47 rfl ?_
        obtain ⟨J48, hx48, hj48⟩ := k_law (E := E) (ex := ex) (J := J) hP hb56 V ht (sNm V s (sTwo V s)) (in3 h.1 h.2.1) (hL.at (in3 h.1 h.2.1)) (d + 1)
        refine r_cV1l dX10_law_48 vlX10_235 (tl_w _ ht) (Nat.le_of_ble_eq_true rfl) hx48 ?_
        exact r_lretq dX10_law_51 rfl (Qj.mk hj48)
      · exact absurd c17 (by decide)
theorem tsout_0_15 {k : Int32} (q0 : ¬ k = 0) (q1 : ¬ k = 1) (q2 : ¬ k = 2) (q3 : ¬ k = 3) (q4 : ¬ k = 4) (q5 : ¬ k = 5) (q6 : ¬ k = 6) (q7 : ¬ k = 7) (q8 : ¬ k = 8) (q9 : ¬ k = 9) (q10 : ¬ k = 10) (q11 : ¬ k = 11) (q12 : ¬ k = 12) (q13 : ¬ k = 13) (q14 : ¬ k = 14) (q15 : ¬ k = 15) : k.toInt < 0 ∨ 15 < k.toInt := by
  rcases Int.lt_or_le k.toInt 0 with h | h
  · exact Or.inl h
  · right
    apply Classical.byContradiction
    intro h2
    have h3 : k.toInt = 0 ∨ k.toInt = 1 ∨ k.toInt = 2 ∨ k.toInt = 3 ∨ k.toInt = 4 ∨ k.toInt = 5 ∨ k.toInt = 6 ∨ k.toInt = 7 ∨ k.toInt = 8 ∨ k.toInt = 9 ∨ k.toInt = 10 ∨ k.toInt = 11 ∨ k.toInt = 12 ∨ k.toInt = 13 ∨ k.toInt = 14 ∨ k.toInt = 15 := by omega
    rcases h3 with h3 | h3 | h3 | h3 | h3 | h3 | h3 | h3 | h3 | h3 | h3 | h3 | h3 | h3 | h3 | h3
    · exact q0 (Int32.toInt_inj.mp (h3.trans (by decide)))
    · exact q1 (Int32.toInt_inj.mp (h3.trans (by decide)))
    · exact q2 (Int32.toInt_inj.mp (h3.trans (by decide)))
    · exact q3 (Int32.toInt_inj.mp (h3.trans (by decide)))
    · exact q4 (Int32.toInt_inj.mp (h3.trans (by decide)))
    · exact q5 (Int32.toInt_inj.mp (h3.trans (by decide)))
    · exact q6 (Int32.toInt_inj.mp (h3.trans (by decide)))
    · exact q7 (Int32.toInt_inj.mp (h3.trans (by decide)))
    · exact q8 (Int32.toInt_inj.mp (h3.trans (by decide)))
    · exact q9 (Int32.toInt_inj.mp (h3.trans (by decide)))
    · exact q10 (Int32.toInt_inj.mp (h3.trans (by decide)))
    · exact q11 (Int32.toInt_inj.mp (h3.trans (by decide)))
    · exact q12 (Int32.toInt_inj.mp (h3.trans (by decide)))
    · exact q13 (Int32.toInt_inj.mp (h3.trans (by decide)))
    · exact q14 (Int32.toInt_inj.mp (h3.trans (by decide)))
    · exact q15 (Int32.toInt_inj.mp (h3.trans (by decide)))
def sCo (V I : Nat → Nat → Int32) (t n m : Nat) (w : Int32) : Int32 := if w = 0 then I t 3 else if w = 1 then V 13 0 else if w = 2 then sCnt V 0 n else if w = 3 then sCnt V 1 n else if w = 4 then sCnt V 2 n else if w = 5 then sCnt V 3 n else if w = 6 then I t 7 else if w = 7 then sOut V 1 m else if w = 8 then sOut V 2 m else if w = 9 then I (t + 7) 5 else if w = 10 then V 15 0 else if w = 11 then sOn V (sTB V n) n else if w = 12 then V 14 0 else if w = 13 then I 93 4 else if w = 14 then sKs I else if w = 15 then I 0 13 else -1
theorem sKs_o (I V : Nat → Nat → Int32) : sKs (wB I 56 V) = sKs I := by unfold sKs; rw [wB_o I 56 V (br_x _ hb56 93 (by decide)), wB_o I 56 V (br_x _ hb56 93 (by decide))]
set_option maxHeartbeats 1000000 in
theorem k_count {E : xCl} {ex : Bool} {I V : Nat → Nat → Int32} {J : Nat → Nat → Int64} {P : Nat → Nat → Nat} (hP : Pok P) {t : Nat} (ht : t ∈ TL) (hx5 : P 0 5 = t + 1) (hbt : P 56 0 = t + 1) {n : Nat} (hv : Vok V n) {m : Nat} (hm : m ≤ 8) (hc : I t 7 = nI m) (w : Int32) (d : Nat) : xEx E ex (d + 4) yX10_count [.ref 0, .int w] (SH, wB I 56 V, J, P) (some (.int (sCo V I t n m w))) (SH, wB I 56 V, J, P) := by
  refine x_enter cqX10_count [some (.ref 0), some (.int w)] rfl (by simp [lg_sl, Value.category]) ?_
  refine r_iload_n dX10_count_0 rfl ?_
  by_cases q1_0 : w = 0
  · refine r_tsI 80 dX10_count_1 (by rw [q1_0]; decide) (by rw [q1_0]; decide) (off := 79) (by rw [q1_0]; rfl) (by decide) ?_
    refine r_aload_n dX10_count_80 rfl ?_
    refine r_getR dX10_count_81 flX10_29 sh_0 (by decide) rfl hx5 ?_
    refine r_getIv dX10_count_84 flX10_169 (tl_s _ ht) (by decide) rfl (wB_t0 _ hb56 _ ht _) ?_
    exact r_iret dX10_count_87 rfl rfl (by rw [sCo, if_pos q1_0]) rfl
  by_cases q1_1 : w = 1
  · refine r_tsI 88 dX10_count_1 (by rw [q1_1]; decide) (by rw [q1_1]; decide) (off := 87) (by rw [q1_1]; rfl) (by decide) ?_
    refine r_aload_n dX10_count_88 rfl ?_
    refine r_getR dX10_count_89 flX10_42 sh_0 (by decide) rfl (pf_0_7 hP) ?_
    refine r_getIv dX10_count_92 flX10_251 (br_s _ hb56) (by decide) rfl (wB_i _ _ _ (by decide)) ?_
    exact r_iret dX10_count_95 rfl rfl (by rw [sCo, if_neg q1_0, if_pos q1_1]) rfl
  by_cases q1_2 : w = 2
  · refine r_tsI 96 dX10_count_1 (by rw [q1_2]; decide) (by rw [q1_2]; decide) (off := 95) (by rw [q1_2]; rfl) (by decide) ?_
    refine r_aload_n dX10_count_96 rfl ?_
    refine r_getR dX10_count_97 flX10_42 sh_0 (by decide) rfl (pf_0_7 hP) ?_
    refine r_iconst (v := 0) dX10_count_100 (by decide) ?_
    refine r_cV1i dX10_count_101 vlX10_403 (br_s _ hb56) (Nat.le_of_ble_eq_true rfl) (k_strandsAs hP hb56 hv 0 (d + 2)) ?_
    exact r_iret dX10_count_104 rfl rfl (by rw [sCo, if_neg q1_0, if_neg q1_1, if_pos q1_2]) rfl
  by_cases q1_3 : w = 3
  · refine r_tsI 105 dX10_count_1 (by rw [q1_3]; decide) (by rw [q1_3]; decide) (off := 104) (by rw [q1_3]; rfl) (by decide) ?_
    refine r_aload_n dX10_count_105 rfl ?_
    refine r_getR dX10_count_106 flX10_42 sh_0 (by decide) rfl (pf_0_7 hP) ?_
    refine r_iconst (v := 1) dX10_count_109 (by decide) ?_
    refine r_cV1i dX10_count_110 vlX10_403 (br_s _ hb56) (Nat.le_of_ble_eq_true rfl) (k_strandsAs hP hb56 hv 1 (d + 2)) ?_
    exact r_iret dX10_count_113 rfl rfl (by rw [sCo, if_neg q1_0, if_neg q1_1, if_neg q1_2, if_pos q1_3]) rfl
  by_cases q1_4 : w = 4
  · refine r_tsI 114 dX10_count_1 (by rw [q1_4]; decide) (by rw [q1_4]; decide) (off := 113) (by rw [q1_4]; rfl) (by decide) ?_
    refine r_aload_n dX10_count_114 rfl ?_
    refine r_getR dX10_count_115 flX10_42 sh_0 (by decide) rfl (pf_0_7 hP) ?_
    refine r_iconst (v := 2) dX10_count_118 (by decide) ?_
    refine r_cV1i dX10_count_119 vlX10_403 (br_s _ hb56) (Nat.le_of_ble_eq_true rfl) (k_strandsAs hP hb56 hv 2 (d + 2)) ?_
    exact r_iret dX10_count_122 rfl rfl (by rw [sCo, if_neg q1_0, if_neg q1_1, if_neg q1_2, if_neg q1_3, if_pos q1_4]) rfl
  by_cases q1_5 : w = 5
  · refine r_tsI 123 dX10_count_1 (by rw [q1_5]; decide) (by rw [q1_5]; decide) (off := 122) (by rw [q1_5]; rfl) (by decide) ?_
    refine r_aload_n dX10_count_123 rfl ?_
    refine r_getR dX10_count_124 flX10_42 sh_0 (by decide) rfl (pf_0_7 hP) ?_
    refine r_iconst (v := 3) dX10_count_127 (by decide) ?_
    refine r_cV1i dX10_count_128 vlX10_403 (br_s _ hb56) (Nat.le_of_ble_eq_true rfl) (k_strandsAs hP hb56 hv 3 (d + 2)) ?_
    exact r_iret dX10_count_131 rfl rfl (by rw [sCo, if_neg q1_0, if_neg q1_1, if_neg q1_2, if_neg q1_3, if_neg q1_4, if_pos q1_5]) rfl
  by_cases q1_6 : w = 6
  · refine r_tsI 132 dX10_count_1 (by rw [q1_6]; decide) (by rw [q1_6]; decide) (off := 131) (by rw [q1_6]; rfl) (by decide) ?_
    refine r_aload_n dX10_count_132 rfl ?_
    refine r_getR dX10_count_133 flX10_29 sh_0 (by decide) rfl hx5 ?_
    refine r_getIv dX10_count_136 flX10_205 (tl_s _ ht) (by decide) rfl (wB_t0 _ hb56 _ ht _) ?_
    exact r_iret dX10_count_139 rfl rfl (by rw [sCo, if_neg q1_0, if_neg q1_1, if_neg q1_2, if_neg q1_3, if_neg q1_4, if_neg q1_5, if_pos q1_6]) rfl
  by_cases q1_7 : w = 7
  · refine r_tsI 140 dX10_count_1 (by rw [q1_7]; decide) (by rw [q1_7]; decide) (off := 139) (by rw [q1_7]; rfl) (by decide) ?_
    refine r_aload_n dX10_count_140 rfl ?_
    refine r_getR dX10_count_141 flX10_42 sh_0 (by decide) rfl (pf_0_7 hP) ?_
    refine r_iconst (v := 1) dX10_count_144 (by decide) ?_
    refine r_cV1i dX10_count_145 vlX10_406 (br_s _ hb56) (Nat.le_of_ble_eq_true rfl) (k_crossingsAs hP hb56 ht hbt hm hc 1 (d + 2)) ?_
    exact r_iret dX10_count_148 rfl rfl (by rw [sCo, if_neg q1_0, if_neg q1_1, if_neg q1_2, if_neg q1_3, if_neg q1_4, if_neg q1_5, if_neg q1_6, if_pos q1_7]) rfl
  by_cases q1_8 : w = 8
  · refine r_tsI 149 dX10_count_1 (by rw [q1_8]; decide) (by rw [q1_8]; decide) (off := 148) (by rw [q1_8]; rfl) (by decide) ?_
    refine r_aload_n dX10_count_149 rfl ?_
    refine r_getR dX10_count_150 flX10_42 sh_0 (by decide) rfl (pf_0_7 hP) ?_
    refine r_iconst (v := 2) dX10_count_153 (by decide) ?_
    refine r_cV1i dX10_count_154 vlX10_406 (br_s _ hb56) (Nat.le_of_ble_eq_true rfl) (k_crossingsAs hP hb56 ht hbt hm hc 2 (d + 2)) ?_
    exact r_iret dX10_count_157 rfl rfl (by rw [sCo, if_neg q1_0, if_neg q1_1, if_neg q1_2, if_neg q1_3, if_neg q1_4, if_neg q1_5, if_neg q1_6, if_neg q1_7, if_pos q1_8]) rfl
  by_cases q1_9 : w = 9
  · refine r_tsI 158 dX10_count_1 (by rw [q1_9]; decide) (by rw [q1_9]; decide) (off := 157) (by rw [q1_9]; rfl) (by decide) ?_
    refine r_aload_n dX10_count_158 rfl ?_
    refine r_getR dX10_count_159 flX10_29 sh_0 (by decide) rfl hx5 ?_
    refine r_getR dX10_count_162 flX10_231 (tl_s _ ht) (by decide) rfl (tl_p8 hP _ ht) ?_
    refine r_getIv dX10_count_165 flX10_409 (tl_w _ ht) (by decide) rfl (wB_t _ hb56 _ ht (by decide) _) ?_
    exact r_iret dX10_count_168 rfl rfl (by rw [sCo, if_neg q1_0, if_neg q1_1, if_neg q1_2, if_neg q1_3, if_neg q1_4, if_neg q1_5, if_neg q1_6, if_neg q1_7, if_neg q1_8, if_pos q1_9]) rfl
  by_cases q1_10 : w = 10
  · refine r_tsI 169 dX10_count_1 (by rw [q1_10]; decide) (by rw [q1_10]; decide) (off := 168) (by rw [q1_10]; rfl) (by decide) ?_
    refine r_aload_n dX10_count_169 rfl ?_
    refine r_getR dX10_count_170 flX10_42 sh_0 (by decide) rfl (pf_0_7 hP) ?_
    refine r_getIv dX10_count_173 flX10_273 (br_s _ hb56) (by decide) rfl (wB_i _ _ _ (by decide)) ?_
    exact r_iret dX10_count_176 rfl rfl (by rw [sCo, if_neg q1_0, if_neg q1_1, if_neg q1_2, if_neg q1_3, if_neg q1_4, if_neg q1_5, if_neg q1_6, if_neg q1_7, if_neg q1_8, if_neg q1_9, if_pos q1_10]) rfl
  by_cases q1_11 : w = 11
  · refine r_tsI 177 dX10_count_1 (by rw [q1_11]; decide) (by rw [q1_11]; decide) (off := 176) (by rw [q1_11]; rfl) (by decide) ?_
    refine r_aload_n dX10_count_177 rfl ?_
    refine r_getR dX10_count_178 flX10_42 sh_0 (by decide) rfl (pf_0_7 hP) ?_
    refine r_aload_n dX10_count_181 rfl ?_
    refine r_getR dX10_count_182 flX10_42 sh_0 (by decide) rfl (pf_0_7 hP) ?_
    refine r_cV0i dX10_count_185 vlX10_279 (br_s _ hb56) (Nat.le_of_ble_eq_true rfl) (k_thereBits hP hb56 hv d) ?_
    refine r_cV1i dX10_count_188 vlX10_371 (br_s _ hb56) (Nat.le_of_ble_eq_true rfl) (k_owedOn hP hb56 hv _ (d + 2)) ?_
    exact r_iret dX10_count_191 rfl rfl (by rw [sCo, if_neg q1_0, if_neg q1_1, if_neg q1_2, if_neg q1_3, if_neg q1_4, if_neg q1_5, if_neg q1_6, if_neg q1_7, if_neg q1_8, if_neg q1_9, if_neg q1_10, if_pos q1_11]) rfl
  by_cases q1_12 : w = 12
  · refine r_tsI 192 dX10_count_1 (by rw [q1_12]; decide) (by rw [q1_12]; decide) (off := 191) (by rw [q1_12]; rfl) (by decide) ?_
    refine r_aload_n dX10_count_192 rfl ?_
    refine r_getR dX10_count_193 flX10_42 sh_0 (by decide) rfl (pf_0_7 hP) ?_
    refine r_getIv dX10_count_196 flX10_301 (br_s _ hb56) (by decide) rfl (wB_i _ _ _ (by decide)) ?_
    exact r_iret dX10_count_199 rfl rfl (by rw [sCo, if_neg q1_0, if_neg q1_1, if_neg q1_2, if_neg q1_3, if_neg q1_4, if_neg q1_5, if_neg q1_6, if_neg q1_7, if_neg q1_8, if_neg q1_9, if_neg q1_10, if_neg q1_11, if_pos q1_12]) rfl
  by_cases q1_13 : w = 13
  · refine r_tsI 200 dX10_count_1 (by rw [q1_13]; decide) (by rw [q1_13]; decide) (off := 199) (by rw [q1_13]; rfl) (by decide) ?_
    refine r_aload_n dX10_count_200 rfl ?_
    refine r_getR dX10_count_201 flX10_58 sh_0 (by decide) rfl (pf_0_14 hP) ?_
    refine r_getIv dX10_count_204 flX10_332 sh_93 (by decide) rfl (wB_o _ _ _ (br_x _ hb56 93 (by decide)) _) ?_
    exact r_iret dX10_count_207 rfl rfl (by rw [sCo, if_neg q1_0, if_neg q1_1, if_neg q1_2, if_neg q1_3, if_neg q1_4, if_neg q1_5, if_neg q1_6, if_neg q1_7, if_neg q1_8, if_neg q1_9, if_neg q1_10, if_neg q1_11, if_neg q1_12, if_pos q1_13]) rfl
  by_cases q1_14 : w = 14
  · refine r_tsI 208 dX10_count_1 (by rw [q1_14]; decide) (by rw [q1_14]; decide) (off := 207) (by rw [q1_14]; rfl) (by decide) ?_
    refine r_aload_n dX10_count_208 rfl ?_
    refine r_getR dX10_count_209 flX10_58 sh_0 (by decide) rfl (pf_0_14 hP) ?_
    refine r_cV0i dX10_count_212 vlX10_412 sh_93 (Nat.le_of_ble_eq_true rfl) (by have h := k_knownSize (E := E) (ex := ex) (I := wB I 56 V) (J := J) (P := P) (d + 2); rw [sKs_o] at h; exact h) ?_
    exact r_iret dX10_count_215 rfl rfl (by rw [sCo, if_neg q1_0, if_neg q1_1, if_neg q1_2, if_neg q1_3, if_neg q1_4, if_neg q1_5, if_neg q1_6, if_neg q1_7, if_neg q1_8, if_neg q1_9, if_neg q1_10, if_neg q1_11, if_neg q1_12, if_neg q1_13, if_pos q1_14]) rfl
  by_cases q1_15 : w = 15
  · refine r_tsI 216 dX10_count_1 (by rw [q1_15]; decide) (by rw [q1_15]; decide) (off := 215) (by rw [q1_15]; rfl) (by decide) ?_
    refine r_aload_n dX10_count_216 rfl ?_
    refine r_getIv dX10_count_217 flX10_400 sh_0 (by decide) rfl (wB_o _ _ _ (br_x _ hb56 0 (by decide)) _) ?_
    exact r_iret dX10_count_220 rfl rfl (by rw [sCo, if_neg q1_0, if_neg q1_1, if_neg q1_2, if_neg q1_3, if_neg q1_4, if_neg q1_5, if_neg q1_6, if_neg q1_7, if_neg q1_8, if_neg q1_9, if_neg q1_10, if_neg q1_11, if_neg q1_12, if_neg q1_13, if_neg q1_14, if_pos q1_15]) rfl
  refine r_tsO 221 dX10_count_1 (tsout_0_15 q1_0 q1_1 q1_2 q1_3 q1_4 q1_5 q1_6 q1_7 q1_8 q1_9 q1_10 q1_11 q1_12 q1_13 q1_14 q1_15) (by decide) ?_
  refine r_iconst (v := (-1)) dX10_count_221 (by decide) ?_
  exact r_iret dX10_count_222 rfl rfl (by rw [sCo, if_neg q1_0, if_neg q1_1, if_neg q1_2, if_neg q1_3, if_neg q1_4, if_neg q1_5, if_neg q1_6, if_neg q1_7, if_neg q1_8, if_neg q1_9, if_neg q1_10, if_neg q1_11, if_neg q1_12, if_neg q1_13, if_neg q1_14, if_neg q1_15]) rfl
