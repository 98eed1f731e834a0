def sSag (x w : Int32) : Int32 := if 0 < w then (if x * 100 / w < 9999 then x * 100 / w else 9999) else 9999
set_option maxHeartbeats 1000000 in
theorem k_sagOf {E : xCl} {ex : Bool} {I : Nat → Nat → Int32} {J : Nat → Nat → Int64} {P : Nat → Nat → Nat} (x w : Int32) (d : Nat) : xEx E ex (d + 1) yX10_sagOf [.int x, .int w] (SH, I, J, P) (some (.int (sSag x w))) (SH, I, J, P) := by
  refine x_enter cqX10_sagOf [some (.int x), some (.int w)] rfl (by simp [lg_sl, Value.category]) ?_
  refine r_iload_n dX10_sagOf_0 rfl ?_
  refine r_if_gt 8 dX10_sagOf_1 (by decide) (fun c1 => ?_) (fun c1 => ?_)
  · refine r_sipush (v := 9999) dX10_sagOf_8 (by decide) ?_
    refine r_iload_n dX10_sagOf_11 rfl ?_
    refine r_bipush (v := 100) dX10_sagOf_12 (by decide) ?_
    refine r_imul dX10_sagOf_14 ?_
    refine r_iload_n dX10_sagOf_15 rfl ?_
    refine r_idiv dX10_sagOf_16 (fun q => absurd c1 (by rw [q]; decide)) ?_
    refine r_mmin dX10_sagOf_17 hlX10_246 (Nat.le_of_ble_eq_true rfl) ?_
    exact r_iret dX10_sagOf_20 rfl rfl (by rw [sSag, if_pos c1]) rfl
  · refine r_sipush (v := 9999) dX10_sagOf_4 (by decide) ?_
    exact r_iret dX10_sagOf_7 rfl rfl (by rw [sSag, if_neg c1]) rfl
def okA (I : Nat → Nat → Int32) (B y w : Int32) (j : Nat) : Prop := (w >>> (nI j &&& 31)) &&& 1 = 0 ∨ ¬ I 94 j = y ∨ (¬ sSag (I 95 j) B < I 96 j ↔ I 97 j = 1)
set_option maxHeartbeats 2000000 in
theorem l_agree {E : xCl} {ex : Bool} {I V : Nat → Nat → Int32} {J : Nat → Nat → Int64} {P : Nat → Nat → Nat} (hP : Pok P) {b : Nat} (hb : b ∈ BR) {t : Nat} (ht : t ∈ TL) (hbt : P b 0 = t + 1) {n : Nat} (hv : Vok V n) (hL : Lok I t) {s : Nat} (hs : s ≤ 24) (h4 : I 93 4 = nI s) (y w r : Int32) (h1 : (∀ i, i < s → okA I (sBr V (Lv I t) n) y w i) → r = 1) (h0 : ∀ i, i < s → ¬ okA I (sBr V (Lv I t) n) y w i → r = 0) (d : Nat) : ∀ j, j ≤ s → (∀ i, i < j → okA I (sBr V (Lv I t) n) y w i) → ∀ (J1 : Nat → Nat → Int64) (x5 : Option Value), Jok J J1 t → xR (xEx E ex (d + 6)) ex none yX5_agree cX5_agree (some .boolean) 3 [some (.ref 93), some (.ref b), some (.int y), some (.int w), some (.int (nI j)), x5] [] (SH, wB I b V, J1, P) (Qj (wB I b V) J P t (some (.int r))) := by
  refine r_for (fun j => (∀ i, i < j → okA I (sBr V (Lv I t) n) y w i) → ∀ (J1 : Nat → Nat → Int64) (x5 : Option Value), Jok J J1 t → xR (xEx E ex (d + 6)) ex none yX5_agree cX5_agree (some .boolean) 3 [some (.ref 93), some (.ref b), some (.int y), some (.int w), some (.int (nI j)), x5] [] (SH, wB I b V, J1, P) (Qj (wB I b V) J P t (some (.int r)))) _ ?_ ?_
  · intro j hj ih hall J1 x5 hJ
    refine r_iload dX5_agree_3 rfl ?_
    refine r_aload_n dX5_agree_5 rfl ?_
    refine r_getIv dX5_agree_6 flX5_28 sh_93 (by decide) rfl ((wB_o _ _ _ (br_x _ hb 93 (by decide)) _).trans h4) ?_
    refine r_ic_ge 102 dX5_agree_9 (by decide) (fun c9 => ?_) (fun c9 => ?_)
    · exact absurd c9 (nI_ge hj (by omega))
    · refine r_iload dX5_agree_12 rfl ?_
      refine r_bipush (v := 24) dX5_agree_14 (by decide) ?_
      refine r_ic_ge 102 dX5_agree_16 (by decide) (fun c16 => ?_) (fun c16 => ?_)
      · exact absurd c16 (nlt24 (by omega))
      · refine r_iload_n dX5_agree_19 rfl ?_
        refine r_iload dX5_agree_20 rfl ?_
        refine r_ishr dX5_agree_22 ?_
        refine r_iconst (v := 1) dX5_agree_23 (by decide) ?_
        refine r_iand dX5_agree_24 ?_
        refine r_if_eq 96 dX5_agree_25 (by decide) (fun c25 => ?_) (fun c25 => ?_)
        · refine r_iinc4 (v := 1) dX5_agree_96 (by decide) rfl ?_
          refine r_goto 3 dX5_agree_99 (by decide) ?_
          rw [nI_1]; exact ih (fun i hi => (Nat.lt_succ_iff_lt_or_eq.mp hi).elim (hall i) (fun q => by subst q; exact Or.inl c25)) _ _ hJ
        · refine r_aload_n dX5_agree_28 rfl ?_
          refine r_getR dX5_agree_29 flX5_9 sh_93 (by decide) rfl (pf_93_0 hP) ?_
          refine r_iload dX5_agree_32 rfl ?_
          refine r_ialv dX5_agree_34 sh_94 (in24 (Nat.lt_of_lt_of_le hj hs)) ((wB_o _ _ _ (br_x _ hb 94 (by decide)) _).trans (congrArg (I 94) (cl24 (Nat.lt_of_lt_of_le hj hs)))) ?_
          refine r_iload_n dX5_agree_35 rfl ?_
          refine r_ic_eq 42 dX5_agree_36 (by decide) (fun c36 => ?_) (fun c36 => ?_)
          · refine r_aload_n dX5_agree_42 rfl ?_
            refine r_getR dX5_agree_43 flX5_15 sh_93 (by decide) rfl (pf_93_1 hP) ?_
            refine r_iload dX5_agree_46 rfl ?_
            refine r_ialv dX5_agree_48 sh_95 (in24 (Nat.lt_of_lt_of_le hj hs)) ((wB_o _ _ _ (br_x _ hb 95 (by decide)) _).trans (congrArg (I 95) (cl24 (Nat.lt_of_lt_of_le hj hs)))) ?_
            refine r_aload_n dX5_agree_49 rfl ?_
            obtain ⟨J50, hx50, hj50⟩ := k_bridgeBears (E := E) (ex := ex) (J := J1) hP hb ht hbt hv hL d
            refine r_cV0i dX5_agree_50 vlX5_44 (br_s _ hb) (Nat.le_of_ble_eq_true rfl) hx50 ?_
            refine r_cS2i dX5_agree_53 slX5_49 (Nat.le_of_ble_eq_true rfl) (k_sagOf _ _ (d + 5)) ?_
            refine r_aload_n dX5_agree_56 rfl ?_
            refine r_getR dX5_agree_57 flX5_18 sh_93 (by decide) rfl (pf_93_2 hP) ?_
            refine r_iload dX5_agree_60 rfl ?_
            refine r_ialv dX5_agree_62 sh_96 (in24 (Nat.lt_of_lt_of_le hj hs)) ((wB_o _ _ _ (br_x _ hb 96 (by decide)) _).trans (congrArg (I 96) (cl24 (Nat.lt_of_lt_of_le hj hs)))) ?_
            refine r_ic_lt 70 dX5_agree_63 (by decide) (fun c63 => ?_) (fun c63 => ?_)
            · refine r_iconst (v := 0) dX5_agree_70 (by decide) ?_
              refine r_istore5 dX5_agree_71 rfl ?_
              refine r_iload dX5_agree_73 rfl ?_
              refine r_aload_n dX5_agree_75 rfl ?_
              refine r_getR dX5_agree_76 flX5_21 sh_93 (by decide) rfl (pf_93_3 hP) ?_
              refine r_iload dX5_agree_79 rfl ?_
              refine r_ialv dX5_agree_81 sh_97 (in24 (Nat.lt_of_lt_of_le hj hs)) ((wB_o _ _ _ (br_x _ hb 97 (by decide)) _).trans (congrArg (I 97) (cl24 (Nat.lt_of_lt_of_le hj hs)))) ?_
              refine r_iconst (v := 1) dX5_agree_82 (by decide) ?_
              refine r_ic_ne 90 dX5_agree_83 (by decide) (fun c83 => ?_) (fun c83 => ?_)
              · refine r_iconst (v := 0) dX5_agree_90 (by decide) ?_
                refine r_ic_eq 96 dX5_agree_91 (by decide) (fun c91 => ?_) (fun c91 => ?_)
                · refine r_iinc4 (v := 1) dX5_agree_96 (by decide) rfl ?_
                  refine r_goto 3 dX5_agree_99 (by decide) ?_
                  rw [nI_1]; exact ih (fun i hi => (Nat.lt_succ_iff_lt_or_eq.mp hi).elim (hall i) (fun q => by subst q; exact Or.inr (Or.inr (by simp [c63, c83])))) _ _ (hJ.tr hj50)
                · exact absurd c91 (by decide)
              · refine r_iconst (v := 1) dX5_agree_86 (by decide) ?_
                refine r_goto 91 dX5_agree_87 (by decide) ?_
                refine r_ic_eq 96 dX5_agree_91 (by decide) (fun c91 => ?_) (fun c91 => ?_)
                · exact absurd c91 (by decide)
                · refine r_iconst (v := 0) dX5_agree_94 (by decide) ?_
                  exact r_iretq dX5_agree_95 rfl rfl (by rw [h0 j hj (fun q => by simp [okA, c25, c36, c63, c83] at q)]; exact Qj.mk (hJ.tr hj50))
            · refine r_iconst (v := 1) dX5_agree_66 (by decide) ?_
              refine r_goto 71 dX5_agree_67 (by decide) ?_
              refine r_istore5 dX5_agree_71 rfl ?_
              refine r_iload dX5_agree_73 rfl ?_
              refine r_aload_n dX5_agree_75 rfl ?_
              refine r_getR dX5_agree_76 flX5_21 sh_93 (by decide) rfl (pf_93_3 hP) ?_
              refine r_iload dX5_agree_79 rfl ?_
              refine r_ialv dX5_agree_81 sh_97 (in24 (Nat.lt_of_lt_of_le hj hs)) ((wB_o _ _ _ (br_x _ hb 97 (by decide)) _).trans (congrArg (I 97) (cl24 (Nat.lt_of_lt_of_le hj hs)))) ?_
              refine r_iconst (v := 1) dX5_agree_82 (by decide) ?_
              refine r_ic_ne 90 dX5_agree_83 (by decide) (fun c83 => ?_) (fun c83 => ?_)
              · refine r_iconst (v := 0) dX5_agree_90 (by decide) ?_
                refine r_ic_eq 96 dX5_agree_91 (by decide) (fun c91 => ?_) (fun c91 => ?_)
                · exact absurd c91 (by decide)
                · refine r_iconst (v := 0) dX5_agree_94 (by decide) ?_
                  exact r_iretq dX5_agree_95 rfl rfl (by rw [h0 j hj (fun q => by simp [okA, c25, c36, c63, c83] at q)]; exact Qj.mk (hJ.tr hj50))
              · refine r_iconst (v := 1) dX5_agree_86 (by decide) ?_
                refine r_goto 91 dX5_agree_87 (by decide) ?_
                refine r_ic_eq 96 dX5_agree_91 (by decide) (fun c91 => ?_) (fun c91 => ?_)
                · refine r_iinc4 (v := 1) dX5_agree_96 (by decide) rfl ?_
                  refine r_goto 3 dX5_agree_99 (by decide) ?_
                  rw [nI_1]; exact ih (fun i hi => (Nat.lt_succ_iff_lt_or_eq.mp hi).elim (hall i) (fun q => by subst q; exact Or.inr (Or.inr (by simp [c63, c83])))) _ _ (hJ.tr hj50)
                · exact absurd c91 (by decide)
          · refine r_goto 96 dX5_agree_39 (by decide) ?_
            refine r_iinc4 (v := 1) dX5_agree_96 (by decide) rfl ?_
            refine r_goto 3 dX5_agree_99 (by decide) ?_
            rw [nI_1]; exact ih (fun i hi => (Nat.lt_succ_iff_lt_or_eq.mp hi).elim (hall i) (fun q => by subst q; exact Or.inr (Or.inl c36))) _ _ hJ
  · intro hall J1 x5 hJ
    refine r_iload dX5_agree_3 rfl ?_
    refine r_aload_n dX5_agree_5 rfl ?_
    refine r_getIv dX5_agree_6 flX5_28 sh_93 (by decide) rfl ((wB_o _ _ _ (br_x _ hb 93 (by decide)) _).trans h4) ?_
    refine r_ic_ge 102 dX5_agree_9 (by decide) (fun c9 => ?_) (fun c9 => ?_)
    · refine r_iconst (v := 1) dX5_agree_102 (by decide) ?_
      exact r_iretq dX5_agree_103 rfl rfl (by rw [h1 hall]; exact Qj.mk hJ)
    · exact absurd (nI_le (Nat.le_refl _) (by omega)) c9
set_option maxHeartbeats 1000000 in
theorem k_agree {E : xCl} {ex : Bool} {I V : Nat → Nat → Int32} {J : Nat → Nat → Int64} {P : Nat → Nat → Nat} (hP : Pok P) {b : Nat} (hb : b ∈ BR) {t : Nat} (ht : t ∈ TL) (hbt : P b 0 = t + 1) {n : Nat} (hv : Vok V n) (hL : Lok I t) {s : Nat} (hs : s ≤ 24) (h4 : I 93 4 = nI s) (y w r : Int32) (h1 : (∀ i, i < s → okA I (sBr V (Lv I t) n) y w i) → r = 1) (h0 : ∀ i, i < s → ¬ okA I (sBr V (Lv I t) n) y w i → r = 0) (d : Nat) : ∃ J', xEx E ex (d + 7) yX5_agree [.ref 93, .ref b, .int y, .int w] (SH, wB I b V, J, P) (some (.int r)) (SH, wB I b V, J', P) ∧ Jok J J' t := by
  refine Qj.use (x_enterq (d := d + 6) cqX5_agree [some (.ref 93), some (.ref b), some (.int y), some (.int w), none, none] rfl (by simp [lg_sl, Value.category]) ?_)
  refine r_iconst (v := 0) dX5_agree_0 (by decide) ?_
  refine r_istore4 dX5_agree_1 rfl ?_
  exact l_agree hP hb ht hbt hv hL hs h4 y w r h1 h0 d 0 (Nat.zero_le s) (fun i hi => absurd hi (Nat.not_lt_zero i)) J none (Jok.rf J t)
abbrev sSy (V : Nat → Nat → Int32) (cut i : Int32) : Prop := sTh V i ∧ (cut >>> (i &&& 31)) &&& 1 = 0
set_option maxHeartbeats 1000000 in
theorem k_stays_t {E : xCl} {ex : Bool} {I V : Nat → Nat → Int32} {J : Nat → Nat → Int64} {P : Nat → Nat → Nat} (hP : Pok P) {b : Nat} (hb : b ∈ BR) {i cut : Int32} (h : sSy V cut i) (d : Nat) : xEx E ex (d + 3) yX9_stays [.ref b, .int i, .int cut] (SH, wB I b V, J, P) (some (.int 1)) (SH, wB I b V, J, P) := by
  refine x_enter cqX9_stays [some (.ref b), some (.int i), some (.int cut)] rfl (by simp [lg_sl, Value.category]) ?_
  refine r_aload_n dX9_stays_0 rfl ?_
  refine r_iload_n dX9_stays_1 rfl ?_
  by_cases h2 : sTh V i
  · refine r_cV1i dX9_stays_2 vlX9_42 (br_s _ hb) (Nat.le_of_ble_eq_true rfl) (k_isThere_t hP hb h2 d) ?_
    refine r_if_eq 20 dX9_stays_5 (by decide) (fun c5 => ?_) (fun c5 => ?_)
    · exact absurd c5 (by decide)
    · refine r_iload_n dX9_stays_8 rfl ?_
      refine r_iload_n dX9_stays_9 rfl ?_
      refine r_ishr dX9_stays_10 ?_
      refine r_iconst (v := 1) dX9_stays_11 (by decide) ?_
      refine r_iand dX9_stays_12 ?_
      refine r_if_ne 20 dX9_stays_13 (by decide) (fun c13 => ?_) (fun c13 => ?_)
      · refine r_iconst (v := 0) dX9_stays_20 (by decide) ?_
        exact r_iret dX9_stays_21 rfl rfl (by simp_all [sSy]) rfl
      · refine r_iconst (v := 1) dX9_stays_16 (by decide) ?_
        refine r_goto 21 dX9_stays_17 (by decide) ?_
        exact r_iret dX9_stays_21 rfl rfl (by simp_all [sSy]) rfl
  · refine r_cV1i dX9_stays_2 vlX9_42 (br_s _ hb) (Nat.le_of_ble_eq_true rfl) (k_isThere_f hP hb h2 d) ?_
    refine r_if_eq 20 dX9_stays_5 (by decide) (fun c5 => ?_) (fun c5 => ?_)
    · refine r_iconst (v := 0) dX9_stays_20 (by decide) ?_
      exact r_iret dX9_stays_21 rfl rfl (by simp_all [sSy]) rfl
    · exact absurd c5 (by decide)
set_option maxHeartbeats 1000000 in
theorem k_stays_f {E : xCl} {ex : Bool} {I V : Nat → Nat → Int32} {J : Nat → Nat → Int64} {P : Nat → Nat → Nat} (hP : Pok P) {b : Nat} (hb : b ∈ BR) {i cut : Int32} (h : ¬ sSy V cut i) (d : Nat) : xEx E ex (d + 3) yX9_stays [.ref b, .int i, .int cut] (SH, wB I b V, J, P) (some (.int 0)) (SH, wB I b V, J, P) := by
  refine x_enter cqX9_stays [some (.ref b), some (.int i), some (.int cut)] rfl (by simp [lg_sl, Value.category]) ?_
  refine r_aload_n dX9_stays_0 rfl ?_
  refine r_iload_n dX9_stays_1 rfl ?_
  by_cases h2 : sTh V i
  · refine r_cV1i dX9_stays_2 vlX9_42 (br_s _ hb) (Nat.le_of_ble_eq_true rfl) (k_isThere_t hP hb h2 d) ?_
    refine r_if_eq 20 dX9_stays_5 (by decide) (fun c5 => ?_) (fun c5 => ?_)
    · exact absurd c5 (by decide)
    · refine r_iload_n dX9_stays_8 rfl ?_
      refine r_iload_n dX9_stays_9 rfl ?_
      refine r_ishr dX9_stays_10 ?_
      refine r_iconst (v := 1) dX9_stays_11 (by decide) ?_
      refine r_iand dX9_stays_12 ?_
      refine r_if_ne 20 dX9_stays_13 (by decide) (fun c13 => ?_) (fun c13 => ?_)
      · refine r_iconst (v := 0) dX9_stays_20 (by decide) ?_
        exact r_iret dX9_stays_21 rfl rfl (by simp_all [sSy]) rfl
      · refine r_iconst (v := 1) dX9_stays_16 (by decide) ?_
        refine r_goto 21 dX9_stays_17 (by decide) ?_
        exact r_iret dX9_stays_21 rfl rfl (by simp_all [sSy]) rfl
  · refine r_cV1i dX9_stays_2 vlX9_42 (br_s _ hb) (Nat.le_of_ble_eq_true rfl) (k_isThere_f hP hb h2 d) ?_
    refine r_if_eq 20 dX9_stays_5 (by decide) (fun c5 => ?_) (fun c5 => ?_)
    · refine r_iconst (v := 0) dX9_stays_20 (by decide) ?_
      exact r_iret dX9_stays_21 rfl rfl (by simp_all [sSy]) rfl
    · exact absurd c5 (by decide)
def sUt (V : Nat → Nat → Int32) (g : Nat → Int32) : Nat → Int32
  | 0 => V 14 0
  | j + 1 => sUt V g j + g j
set_option maxHeartbeats 1000000 in
theorem l_untwisted {E : xCl} {ex : Bool} {I V : Nat → Nat → Int32} {J : Nat → Nat → Int64} {P : Nat → Nat → Nat} (hP : Pok P) {b : Nat} (hb : b ∈ BR) {n : Nat} (hv : Vok V n) (d : Nat) : ∀ j, j ≤ n → xR (xEx E ex (d + 0)) ex none yX9_untwisted cX9_untwisted (some .int) 7 [some (.ref 98), some (.ref b), some (.int (sUt V (I 99) j)), some (.int (nI j))] [] (SH, wB I b V, J, P) (xEq (some (.int (sUt V (I 99) n))) (SH, wB I b V, J, P)) := by
  refine r_for (fun j => xR (xEx E ex (d + 0)) ex none yX9_untwisted cX9_untwisted (some .int) 7 [some (.ref 98), some (.ref b), some (.int (sUt V (I 99) j)), some (.int (nI j))] [] (SH, wB I b V, J, P) (xEq (some (.int (sUt V (I 99) n))) (SH, wB I b V, J, P))) _ ?_ ?_
  · intro j hj ih
    refine r_iload_n dX9_untwisted_7 rfl ?_
    refine r_aload_n dX9_untwisted_8 rfl ?_
    refine r_getIv dX9_untwisted_9 flX9_18 (br_s _ hb) (by decide) rfl (wB_i _ _ _ (by decide)) ?_
    refine r_ic_ge 36 dX9_untwisted_12 (by decide) (fun c12 => ?_) (fun c12 => ?_)
    · exact absurd c12 (hv.g hj)
    · refine r_iload_n dX9_untwisted_15 rfl ?_
      refine r_bipush (v := 12) dX9_untwisted_16 (by decide) ?_
      refine r_ic_ge 36 dX9_untwisted_18 (by decide) (fun c18 => ?_) (fun c18 => ?_)
      · exact absurd c18 (lt12 (by have := hv.1; omega))
      · refine r_iload_n dX9_untwisted_21 rfl ?_
        refine r_aload_n dX9_untwisted_22 rfl ?_
        refine r_getR dX9_untwisted_23 flX9_9 sh_98 (by decide) rfl (pf_98_0 hP) ?_
        refine r_iload_n dX9_untwisted_26 rfl ?_
        refine r_ialv dX9_untwisted_27 sh_99 (hv.i hj) ((wB_o _ _ _ (br_x _ hb 99 (by decide)) _).trans (congrArg (I 99) (hv.c hj))) ?_
        refine r_iadd dX9_untwisted_28 ?_
        refine r_istore_n2 dX9_untwisted_29 rfl ?_
        refine r_iinc3 (v := 1) dX9_untwisted_30 (by decide) rfl ?_
        refine r_goto 7 dX9_untwisted_33 (by decide) ?_
        rw [nI_1]; exact ih
  · refine r_iload_n dX9_untwisted_7 rfl ?_
    refine r_aload_n dX9_untwisted_8 rfl ?_
    refine r_getIv dX9_untwisted_9 flX9_18 (br_s _ hb) (by decide) rfl (wB_i _ _ _ (by decide)) ?_
    refine r_ic_ge 36 dX9_untwisted_12 (by decide) (fun c12 => ?_) (fun c12 => ?_)
    · refine r_iload_n dX9_untwisted_36 rfl ?_
      exact r_iret dX9_untwisted_37 rfl rfl rfl rfl
    · exact absurd hv.l c12
set_option maxHeartbeats 1000000 in
theorem k_untwisted {E : xCl} {ex : Bool} {I V : Nat → Nat → Int32} {J : Nat → Nat → Int64} {P : Nat → Nat → Nat} (hP : Pok P) {b : Nat} (hb : b ∈ BR) {n : Nat} (hv : Vok V n) (d : Nat) : xEx E ex (d + 1) yX9_untwisted [.ref 98, .ref b] (SH, wB I b V, J, P) (some (.int (sUt V (I 99) n))) (SH, wB I b V, J, P) := by
  refine x_enter cqX9_untwisted [some (.ref 98), some (.ref b), none, none] rfl (by simp [lg_sl, Value.category]) ?_
  refine r_aload_n dX9_untwisted_0 rfl ?_
  refine r_getIv dX9_untwisted_1 flX9_32 (br_s _ hb) (by decide) rfl (wB_i _ _ _ (by decide)) ?_
  refine r_istore_n2 dX9_untwisted_4 rfl ?_
  refine r_iconst (v := 0) dX9_untwisted_5 (by decide) ?_
  refine r_istore_n3 dX9_untwisted_6 rfl ?_
  exact l_untwisted hP hb hv d 0 (Nat.zero_le n)
def sWo (V : Nat → Nat → Int32) (g h : Nat → Int32) (cut : Int32) : Nat → Int32
  | 0 => V 14 0
  | j + 1 => if sSy V cut (nI j) then (if sSy V cut (V 10 j) then (if V 10 j ≤ nI j then sWo V g h cut j else sWo V g h cut j + (h j + h (V 10 j).toNatClampNeg + (h j + h (V 10 j).toNatClampNeg) / 2)) else sWo V g h cut j + g j) else sWo V g h cut j
set_option maxHeartbeats 1000000 in
theorem l_without {E : xCl} {ex : Bool} {I V : Nat → Nat → Int32} {J : Nat → Nat → Int64} {P : Nat → Nat → Nat} (hP : Pok P) {b : Nat} (hb : b ∈ BR) {n : Nat} (hv : Vok V n) (cut : Int32) (d : Nat) : ∀ j, j ≤ n → ∀ (x5 x6 : Option Value), xR (xEx E ex (d + 3)) ex none yX9_without cX9_without (some .int) 8 [some (.ref 98), some (.ref b), some (.int cut), some (.int (sWo V (I 99) (I 100) cut j)), some (.int (nI j)), x5, x6] [] (SH, wB I b V, J, P) (xEq (some (.int (sWo V (I 99) (I 100) cut n))) (SH, wB I b V, J, P)) := by
  refine r_for (fun j => ∀ (x5 x6 : Option Value), xR (xEx E ex (d + 3)) ex none yX9_without cX9_without (some .int) 8 [some (.ref 98), some (.ref b), some (.int cut), some (.int (sWo V (I 99) (I 100) cut j)), some (.int (nI j)), x5, x6] [] (SH, wB I b V, J, P) (xEq (some (.int (sWo V (I 99) (I 100) cut n))) (SH, wB I b V, J, P))) _ ?_ ?_
  · intro j hj ih x5 x6
    refine r_iload dX9_without_8 rfl ?_
    refine r_aload_n dX9_without_10 rfl ?_
    refine r_getIv dX9_without_11 flX9_18 (br_s _ hb) (by decide) rfl (wB_i _ _ _ (by decide)) ?_
    refine r_ic_ge 109 dX9_without_14 (by decide) (fun c14 => ?_) (fun c14 => ?_)
    · exact absurd c14 (hv.g hj)
    · refine r_iload dX9_without_17 rfl ?_
      refine r_bipush (v := 12) dX9_without_19 (by decide) ?_
      refine r_ic_ge 109 dX9_without_21 (by decide) (fun c21 => ?_) (fun c21 => ?_)
      · exact absurd c21 (lt12 (by have := hv.1; omega))
      · refine r_aload_n dX9_without_24 rfl ?_
        refine r_iload dX9_without_25 rfl ?_
        refine r_iload_n dX9_without_27 rfl ?_
        by_cases h28 : sSy V cut (nI j)
        · refine r_cS3i dX9_without_28 slX9_35 (Nat.le_of_ble_eq_true rfl) (k_stays_t hP hb h28 d) ?_
          refine r_if_ne 37 dX9_without_31 (by decide) (fun c31 => ?_) (fun c31 => ?_)
          · refine r_aload_n dX9_without_37 rfl ?_
            refine r_getR dX9_without_38 flX9_39 (br_s _ hb) (by decide) rfl (br_p10 hP _ hb) ?_
            refine r_iload dX9_without_41 rfl ?_
            refine r_ialv dX9_without_43 (br_a10 _ hb) (hv.i hj) (wB_ac _ _ _ (by decide) (by decide) (vlt (hv.i hj)) (hv.c hj)) ?_
            refine r_istore5 dX9_without_44 rfl ?_
            refine r_aload_n dX9_without_46 rfl ?_
            refine r_iload dX9_without_47 rfl ?_
            refine r_iload_n dX9_without_49 rfl ?_
            by_cases h50 : sSy V cut (V 10 j)
            · refine r_cS3i dX9_without_50 slX9_35 (Nat.le_of_ble_eq_true rfl) (k_stays_t hP hb h50 d) ?_
              refine r_if_ne 69 dX9_without_53 (by decide) (fun c53 => ?_) (fun c53 => ?_)
              · refine r_iload dX9_without_69 rfl ?_
                refine r_iload dX9_without_71 rfl ?_
                refine r_ic_ge 103 dX9_without_73 (by decide) (fun c73 => ?_) (fun c73 => ?_)
                · refine r_iinc4 (v := 1) dX9_without_103 (by decide) rfl ?_
                  refine r_goto 8 dX9_without_106 (by decide) ?_
                  rw [nI_1]; simp only [sWo, if_pos h28, if_pos h50, if_pos c73] at ih; exact ih _ _
                · refine r_aload_n dX9_without_76 rfl ?_
                  refine r_getR dX9_without_77 flX9_15 sh_98 (by decide) rfl (pf_98_1 hP) ?_
                  refine r_iload dX9_without_80 rfl ?_
                  refine r_ialv dX9_without_82 sh_100 (hv.i hj) ((wB_o _ _ _ (br_x _ hb 100 (by decide)) _).trans (congrArg (I 100) (hv.c hj))) ?_
                  refine r_aload_n dX9_without_83 rfl ?_
                  refine r_getR dX9_without_84 flX9_15 sh_98 (by decide) rfl (pf_98_1 hP) ?_
                  refine r_iload dX9_without_87 rfl ?_
                  refine r_ialv dX9_without_89 sh_100 h50.1.in (wB_o _ _ _ (br_x _ hb 100 (by decide)) _) ?_
                  refine r_iadd dX9_without_90 ?_
                  refine r_istore6 dX9_without_91 rfl ?_
                  refine r_iload_n dX9_without_93 rfl ?_
                  refine r_iload dX9_without_94 rfl ?_
                  refine r_iload dX9_without_96 rfl ?_
                  refine r_iconst (v := 2) dX9_without_98 (by decide) ?_
                  refine r_idiv dX9_without_99 (by decide) ?_
                  refine r_iadd dX9_without_100 ?_
                  refine r_iadd dX9_without_101 ?_
                  refine r_istore_n3 dX9_without_102 rfl ?_
                  refine r_iinc4 (v := 1) dX9_without_103 (by decide) rfl ?_
                  refine r_goto 8 dX9_without_106 (by decide) ?_
                  rw [nI_1]; simp only [sWo, if_pos h28, if_pos h50, if_neg c73] at ih; exact ih _ _
              · exact absurd c53 (by decide)
            · refine r_cS3i dX9_without_50 slX9_35 (Nat.le_of_ble_eq_true rfl) (k_stays_f hP hb h50 d) ?_
              refine r_if_ne 69 dX9_without_53 (by decide) (fun c53 => ?_) (fun c53 => ?_)
              · exact absurd c53 (by decide)
              · refine r_iload_n dX9_without_56 rfl ?_
                refine r_aload_n dX9_without_57 rfl ?_
                refine r_getR dX9_without_58 flX9_9 sh_98 (by decide) rfl (pf_98_0 hP) ?_
                refine r_iload dX9_without_61 rfl ?_
                refine r_ialv dX9_without_63 sh_99 (hv.i hj) ((wB_o _ _ _ (br_x _ hb 99 (by decide)) _).trans (congrArg (I 99) (hv.c hj))) ?_
                refine r_iadd dX9_without_64 ?_
                refine r_istore_n3 dX9_without_65 rfl ?_
                refine r_goto 103 dX9_without_66 (by decide) ?_
                refine r_iinc4 (v := 1) dX9_without_103 (by decide) rfl ?_
                refine r_goto 8 dX9_without_106 (by decide) ?_
                rw [nI_1]; simp only [sWo, if_pos h28, if_neg h50] at ih; exact ih _ _
          · exact absurd c31 (by decide)
        · refine r_cS3i dX9_without_28 slX9_35 (Nat.le_of_ble_eq_true rfl) (k_stays_f hP hb h28 d) ?_
          refine r_if_ne 37 dX9_without_31 (by decide) (fun c31 => ?_) (fun c31 => ?_)
          · exact absurd c31 (by decide)
          · refine r_goto 103 dX9_without_34 (by decide) ?_
            refine r_iinc4 (v := 1) dX9_without_103 (by decide) rfl ?_
            refine r_goto 8 dX9_without_106 (by decide) ?_
            rw [nI_1]; simp only [sWo, if_neg h28] at ih; exact ih _ _
  · intro x5 x6
    refine r_iload dX9_without_8 rfl ?_
    refine r_aload_n dX9_without_10 rfl ?_
    refine r_getIv dX9_without_11 flX9_18 (br_s _ hb) (by decide) rfl (wB_i _ _ _ (by decide)) ?_
    refine r_ic_ge 109 dX9_without_14 (by decide) (fun c14 => ?_) (fun c14 => ?_)
    · refine r_iload_n dX9_without_109 rfl ?_
      exact r_iret dX9_without_110 rfl rfl rfl rfl
    · exact absurd hv.l c14
set_option maxHeartbeats 1000000 in
theorem k_without {E : xCl} {ex : Bool} {I V : Nat → Nat → Int32} {J : Nat → Nat → Int64} {P : Nat → Nat → Nat} (hP : Pok P) {b : Nat} (hb : b ∈ BR) {n : Nat} (hv : Vok V n) (cut : Int32) (d : Nat) : xEx E ex (d + 4) yX9_without [.ref 98, .ref b, .int cut] (SH, wB I b V, J, P) (some (.int (sWo V (I 99) (I 100) cut n))) (SH, wB I b V, J, P) := by
  refine x_enter cqX9_without [some (.ref 98), some (.ref b), some (.int cut), none, none, none, none] rfl (by simp [lg_sl, Value.category]) ?_
  refine r_aload_n dX9_without_0 rfl ?_
  refine r_getIv dX9_without_1 flX9_32 (br_s _ hb) (by decide) rfl (wB_i _ _ _ (by decide)) ?_
  refine r_istore_n3 dX9_without_4 rfl ?_
  refine r_iconst (v := 0) dX9_without_5 (by decide) ?_
  refine r_istore4 dX9_without_6 rfl ?_
  exact l_without hP hb hv cut d 0 (Nat.zero_le n) none none
