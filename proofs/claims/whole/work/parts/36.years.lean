/-! years -/
theorem Vok.xu {V : Nat → Nat → Int32} {n : Nat} (h : Vok V n) {f k : Nat} {v : Int32} (h3 : f ≠ 3) (h4 : f ≠ 4) (h13 : f ≠ 13) : Vok (xu V f k v) n := by
  obtain ⟨a1, a2, a3, a4⟩ := h
  refine ⟨a1, ?_, fun q => ?_, fun q => ?_⟩
  · rw [xu_f _ _ (Ne.symm h13)]; exact a2
  · rw [xu_f _ _ (Ne.symm h3)]; exact a3 q
  · rw [xu_f _ _ (Ne.symm h4)]; exact a4 q
theorem Vok.fr {V : Nat → Nat → Int32} {n : Nat} (h : Vok V n) (i w : Int32) : Vok (sFr V i w) n := by
  unfold sFr
  split
  · split
    · exact h.xu (by decide) (by decide) (by decide)
    · exact (h.xu (by decide) (by decide) (by decide)).xu (by decide) (by decide) (by decide)
  · exact h
theorem Vok.pay {V : Nat → Nat → Int32} {n : Nat} (h : Vok V n) (k : Nat) : Vok (sPay V k) n := by
  unfold sPay sMv
  exact ((h.xu (by decide) (by decide) (by decide)).xu (by decide) (by decide) (by decide)).xu (by decide) (by decide) (by decide)
def stF (V : Nat → Nat → Int32) (Lw : Nat → (Nat → Int64) → Int64) (j : Nat) : Nat → Nat → Int32 := if V 9 j = 0 then sFr V (nI j) (sWl (Lw 1 (sNm V (nI j) (sTwo V (nI j)))) 99 2) else V
def stG (V : Nat → Nat → Int32) (Lw : Nat → (Nat → Int64) → Int64) (j : Nat) : Nat → Nat → Int32 := if V 9 j = 0 then xu V 5 j (if V 5 j + sWl (Lw 2 (sNm V (nI j) (sTwo V (nI j)))) 99 0 < 9999 then V 5 j + sWl (Lw 2 (sNm V (nI j) (sTwo V (nI j)))) 99 0 else 9999) else V
def stP (V : Nat → Nat → Int32) (j : Nat) : Nat → Nat → Int32 := if sCan V (nI j) then (if V 15 0 < V 7 j then V else sPay V j) else V
def sFA (V : Nat → Nat → Int32) (Lw : Nat → (Nat → Int64) → Int64) : Nat → Nat → Nat → Int32
  | 0 => V
  | j + 1 => stF (sFA V Lw j) Lw j
def sGA (V : Nat → Nat → Int32) (Lw : Nat → (Nat → Int64) → Int64) : Nat → Nat → Nat → Int32
  | 0 => V
  | j + 1 => stG (sGA V Lw j) Lw j
def sPA (V : Nat → Nat → Int32) : Nat → Nat → Nat → Int32
  | 0 => V
  | j + 1 => stP (sPA V j) j
theorem Vok.okF {V : Nat → Nat → Int32} {n : Nat} (h : Vok V n) (Lw : Nat → (Nat → Int64) → Int64) (j : Nat) : Vok (stF V Lw j) n := by
  unfold stF; split
  · exact h.fr _ _
  · exact h
theorem Vok.okG {V : Nat → Nat → Int32} {n : Nat} (h : Vok V n) (Lw : Nat → (Nat → Int64) → Int64) (j : Nat) : Vok (stG V Lw j) n := by
  unfold stG; split
  · exact h.xu (by decide) (by decide) (by decide)
  · exact h
theorem Vok.okP {V : Nat → Nat → Int32} {n : Nat} (h : Vok V n) (j : Nat) : Vok (stP V j) n := by
  unfold stP; split
  · split
    · exact h
    · exact h.pay _
  · exact h
theorem Vok.okFA {V : Nat → Nat → Int32} {n : Nat} (h : Vok V n) (Lw : Nat → (Nat → Int64) → Int64) : ∀ j, Vok (sFA V Lw j) n
  | 0 => h
  | j + 1 => (Vok.okFA h Lw j).okF Lw j
theorem Vok.okGA {V : Nat → Nat → Int32} {n : Nat} (h : Vok V n) (Lw : Nat → (Nat → Int64) → Int64) : ∀ j, Vok (sGA V Lw j) n
  | 0 => h
  | j + 1 => (Vok.okGA h Lw j).okG Lw j
theorem Vok.okPA {V : Nat → Nat → Int32} {n : Nat} (h : Vok V n) : ∀ j, Vok (sPA V j) n
  | 0 => h
  | j + 1 => (Vok.okPA h j).okP j
set_option maxHeartbeats 2000000 in
theorem t_frayAll {E : xCl} {ex : Bool} {I V : Nat → Nat → Int32} {J0 : Nat → Nat → Int64} {P : Nat → Nat → Nat} (hP : Pok P) {b : Nat} (hb : b ∈ BR) {t : Nat} (ht : t ∈ TL) (hbt : P b 0 = t + 1) {n : Nat} (hv : Vok V n) (hL : Lok I t) {j : Nat} (hj : j < n) {Q : Option Value → xS → Prop} {J1 : Nat → Nat → Int64} (d : Nat) (k : ∀ J2, Jok J1 J2 t → xR (xEx E ex (d + 5)) ex none yX0_frayAll cX0_frayAll none 2 [some (.ref b), some (.int (nI (j + 1)))] [] (SH, wB I b (stF V (Lv I t) j), J2, P) Q) : xR (xEx E ex (d + 5)) ex none yX0_frayAll cX0_frayAll none 2 [some (.ref b), some (.int (nI j))] [] (SH, wB I b V, J1, P) Q := by
  refine r_iload_n dX0_frayAll_2 rfl ?_
  refine r_aload_n dX0_frayAll_3 rfl ?_
  refine r_getIv dX0_frayAll_4 flX0_57 (br_s _ hb) (by decide) rfl (wB_i _ _ _ (by decide)) ?_
  refine r_ic_ge 56 dX0_frayAll_7 (by decide) (fun c7 => ?_) (fun c7 => ?_)
  · exact absurd c7 (hv.g hj)
  · refine r_aload_n dX0_frayAll_10 rfl ?_
    refine r_iload_n dX0_frayAll_11 rfl ?_
    by_cases h12 : sTh V (nI j)
    · refine r_cV1i dX0_frayAll_12 vlX0_76 (br_s _ hb) (Nat.le_of_ble_eq_true rfl) (k_isThere_t hP hb h12 (d + 3)) ?_
      have q12 := (hv.t hj).mp h12
      refine r_if_eq 50 dX0_frayAll_15 (by decide) (fun c15 => ?_) (fun c15 => ?_)
      · exact absurd c15 (by decide)
      · refine r_aload_n dX0_frayAll_18 rfl ?_
        refine r_iload_n dX0_frayAll_19 rfl ?_
        refine r_aload_n dX0_frayAll_20 rfl ?_
        refine r_iload_n dX0_frayAll_21 rfl ?_
        refine r_cV1i dX0_frayAll_22 vlX0_115 (br_s _ hb) (Nat.le_of_ble_eq_true rfl) (k_twoOf hP hb (hv.i hj) (d + 2)) ?_
        refine r_cV2v dX0_frayAll_25 vlX0_101 (br_s _ hb) (Nat.le_of_ble_eq_true rfl) (k_measure hP hb ht hbt hv (hv.i hj) _ (d + 3)) ?_
        refine r_aload_n dX0_frayAll_28 rfl ?_
        refine r_iload_n dX0_frayAll_29 rfl ?_
        refine r_aload_n dX0_frayAll_30 rfl ?_
        refine r_getR dX0_frayAll_31 flX0_49 (br_s _ hb) (by decide) rfl hbt ?_
        refine r_getR dX0_frayAll_34 flX0_91 (tl_s _ ht) (by decide) rfl (tl_p8 hP _ ht) ?_
        refine r_iconst (v := 1) dX0_frayAll_37 (by decide) ?_
        obtain ⟨J38, hx38, hj38⟩ := k_law (E := E) (ex := ex) (J := J1) hP hb V ht (sNm V (nI j) (sTwo V (nI j))) (lw := 1) (vp_in_iff.mpr (by decide)) hL.2.1 (d + 3)
        refine r_cV1l dX0_frayAll_38 vlX0_105 (tl_w _ ht) (Nat.le_of_ble_eq_true rfl) hx38 ?_
        refine r_bipush (v := 99) dX0_frayAll_41 (by decide) ?_
        refine r_iconst (v := 2) dX0_frayAll_43 (by decide) ?_
        refine r_cS3i dX0_frayAll_44 slX0_109 (Nat.le_of_ble_eq_true rfl) (k_within (b := b) _ _ _ (d + 4)) ?_
        refine r_cV2v dX0_frayAll_47 vlX0_151 (br_s _ hb) (Nat.le_of_ble_eq_true rfl) (k_fray hP hb _ _ (d + 2)) ?_
        refine r_iinc1 (v := 1) dX0_frayAll_50 (by decide) rfl ?_
        refine r_goto 2 dX0_frayAll_53 (by decide) ?_
        rw [nI_1]; rw [stF, if_pos q12] at k; exact k _ hj38
    · refine r_cV1i dX0_frayAll_12 vlX0_76 (br_s _ hb) (Nat.le_of_ble_eq_true rfl) (k_isThere_f hP hb h12 (d + 3)) ?_
      have q12 := fun q => h12 ((hv.t hj).mpr q)
      refine r_if_eq 50 dX0_frayAll_15 (by decide) (fun c15 => ?_) (fun c15 => ?_)
      · refine r_iinc1 (v := 1) dX0_frayAll_50 (by decide) rfl ?_
        refine r_goto 2 dX0_frayAll_53 (by decide) ?_
        rw [nI_1]; rw [stF, if_neg q12] at k; exact k _ (Jok.rf _ _)
      · exact absurd c15 (by decide)
set_option maxHeartbeats 2000000 in
theorem t_growAll {E : xCl} {ex : Bool} {I V : Nat → Nat → Int32} {J0 : Nat → Nat → Int64} {P : Nat → Nat → Nat} (hP : Pok P) {b : Nat} (hb : b ∈ BR) {t : Nat} (ht : t ∈ TL) (hbt : P b 0 = t + 1) {n : Nat} (hv : Vok V n) (hL : Lok I t) {j : Nat} (hj : j < n) {Q : Option Value → xS → Prop} {J1 : Nat → Nat → Int64} (d : Nat) (k : ∀ J2, Jok J1 J2 t → xR (xEx E ex (d + 5)) ex none yX0_growAll cX0_growAll none 2 [some (.ref b), some (.int (nI (j + 1)))] [] (SH, wB I b (stG V (Lv I t) j), J2, P) Q) : xR (xEx E ex (d + 5)) ex none yX0_growAll cX0_growAll none 2 [some (.ref b), some (.int (nI j))] [] (SH, wB I b V, J1, P) Q := by
  refine r_iload_n dX0_growAll_2 rfl ?_
  refine r_aload_n dX0_growAll_3 rfl ?_
  refine r_getIv dX0_growAll_4 flX0_57 (br_s _ hb) (by decide) rfl (wB_i _ _ _ (by decide)) ?_
  refine r_ic_ge 70 dX0_growAll_7 (by decide) (fun c7 => ?_) (fun c7 => ?_)
  · exact absurd c7 (hv.g hj)
  · refine r_aload_n dX0_growAll_10 rfl ?_
    refine r_iload_n dX0_growAll_11 rfl ?_
    by_cases h12 : sTh V (nI j)
    · refine r_cV1i dX0_growAll_12 vlX0_76 (br_s _ hb) (Nat.le_of_ble_eq_true rfl) (k_isThere_t hP hb h12 (d + 3)) ?_
      have q12 := (hv.t hj).mp h12
      refine r_if_eq 64 dX0_growAll_15 (by decide) (fun c15 => ?_) (fun c15 => ?_)
      · exact absurd c15 (by decide)
      · refine r_aload_n dX0_growAll_18 rfl ?_
        refine r_iload_n dX0_growAll_19 rfl ?_
        refine r_aload_n dX0_growAll_20 rfl ?_
        refine r_iload_n dX0_growAll_21 rfl ?_
        refine r_cV1i dX0_growAll_22 vlX0_115 (br_s _ hb) (Nat.le_of_ble_eq_true rfl) (k_twoOf hP hb (hv.i hj) (d + 2)) ?_
        refine r_cV2v dX0_growAll_25 vlX0_101 (br_s _ hb) (Nat.le_of_ble_eq_true rfl) (k_measure hP hb ht hbt hv (hv.i hj) _ (d + 3)) ?_
        refine r_aload_n dX0_growAll_28 rfl ?_
        refine r_getR dX0_growAll_29 flX0_24 (br_s _ hb) (by decide) rfl (br_p5 hP _ hb) ?_
        refine r_iload_n dX0_growAll_32 rfl ?_
        refine r_sipush (v := 9999) dX0_growAll_33 (by decide) ?_
        refine r_aload_n dX0_growAll_36 rfl ?_
        refine r_getR dX0_growAll_37 flX0_24 (br_s _ hb) (by decide) rfl (br_p5 hP _ hb) ?_
        refine r_iload_n dX0_growAll_40 rfl ?_
        refine r_ialv dX0_growAll_41 (br_a5 _ hb) (hv.i hj) (wB_ac _ _ _ (by decide) (by decide) (vlt (hv.i hj)) (hv.c hj)) ?_
        refine r_aload_n dX0_growAll_42 rfl ?_
        refine r_getR dX0_growAll_43 flX0_49 (br_s _ hb) (by decide) rfl hbt ?_
        refine r_getR dX0_growAll_46 flX0_91 (tl_s _ ht) (by decide) rfl (tl_p8 hP _ ht) ?_
        refine r_iconst (v := 2) dX0_growAll_49 (by decide) ?_
        obtain ⟨J50, hx50, hj50⟩ := k_law (E := E) (ex := ex) (J := J1) hP hb V ht (sNm V (nI j) (sTwo V (nI j))) (lw := 2) (vp_in_iff.mpr (by decide)) hL.2.2 (d + 3)
        refine r_cV1l dX0_growAll_50 vlX0_105 (tl_w _ ht) (Nat.le_of_ble_eq_true rfl) hx50 ?_
        refine r_bipush (v := 99) dX0_growAll_53 (by decide) ?_
        refine r_iconst (v := 0) dX0_growAll_55 (by decide) ?_
        refine r_cS3i dX0_growAll_56 slX0_109 (Nat.le_of_ble_eq_true rfl) (k_within (b := b) _ _ _ (d + 4)) ?_
        refine r_iadd dX0_growAll_59 ?_
        refine r_mmin dX0_growAll_60 hlX0_154 (Nat.le_of_ble_eq_true rfl) ?_
        refine r_iasv dX0_growAll_63 (br_a5 _ hb) (hv.i hj) ((congrArg (fun z => xu _ _ z _) (hv.c hj)).trans (wB_xa (f := 5) _ _ _ (by decide) (by decide) (Nat.lt_of_lt_of_le hj hv.1) _)) ?_
        refine r_iinc1 (v := 1) dX0_growAll_64 (by decide) rfl ?_
        refine r_goto 2 dX0_growAll_67 (by decide) ?_
        rw [nI_1]; rw [stG, if_pos q12] at k; exact k _ hj50
    · refine r_cV1i dX0_growAll_12 vlX0_76 (br_s _ hb) (Nat.le_of_ble_eq_true rfl) (k_isThere_f hP hb h12 (d + 3)) ?_
      have q12 := fun q => h12 ((hv.t hj).mpr q)
      refine r_if_eq 64 dX0_growAll_15 (by decide) (fun c15 => ?_) (fun c15 => ?_)
      · refine r_iinc1 (v := 1) dX0_growAll_64 (by decide) rfl ?_
        refine r_goto 2 dX0_growAll_67 (by decide) ?_
        rw [nI_1]; rw [stG, if_neg q12] at k; exact k _ (Jok.rf _ _)
      · exact absurd c15 (by decide)
set_option maxHeartbeats 2000000 in
theorem t_payAll {E : xCl} {ex : Bool} {I V : Nat → Nat → Int32} {J0 : Nat → Nat → Int64} {P : Nat → Nat → Nat} (hP : Pok P) {b : Nat} (hb : b ∈ BR) {n : Nat} (hv : Vok V n) {j : Nat} (hj : j < n) {Q : Option Value → xS → Prop} {J1 : Nat → Nat → Int64} (d : Nat) (k : xR (xEx E ex (d + 3)) ex none yX0_payAll cX0_payAll none 2 [some (.ref b), some (.int (nI (j + 1)))] [] (SH, wB I b (stP V j), J1, P) Q) : xR (xEx E ex (d + 3)) ex none yX0_payAll cX0_payAll none 2 [some (.ref b), some (.int (nI j))] [] (SH, wB I b V, J1, P) Q := by
  refine r_iload_n dX0_payAll_2 rfl ?_
  refine r_aload_n dX0_payAll_3 rfl ?_
  refine r_getIv dX0_payAll_4 flX0_57 (br_s _ hb) (by decide) rfl (wB_i _ _ _ (by decide)) ?_
  refine r_ic_ge 42 dX0_payAll_7 (by decide) (fun c7 => ?_) (fun c7 => ?_)
  · exact absurd c7 (hv.g hj)
  · refine r_aload_n dX0_payAll_10 rfl ?_
    refine r_iload_n dX0_payAll_11 rfl ?_
    by_cases h12 : sCan V (nI j)
    · refine r_cV1i dX0_payAll_12 vlX0_159 (br_s _ hb) (Nat.le_of_ble_eq_true rfl) (k_canPay_t hP hb hv h12 d) ?_
      refine r_if_eq 36 dX0_payAll_15 (by decide) (fun c15 => ?_) (fun c15 => ?_)
      · exact absurd c15 (by decide)
      · refine r_aload_n dX0_payAll_18 rfl ?_
        refine r_getR dX0_payAll_19 flX0_30 (br_s _ hb) (by decide) rfl (br_p7 hP _ hb) ?_
        refine r_iload_n dX0_payAll_22 rfl ?_
        refine r_ialv dX0_payAll_23 (br_a7 _ hb) (hv.i hj) (wB_ac _ _ _ (by decide) (by decide) (vlt (hv.i hj)) (hv.c hj)) ?_
        refine r_aload_n dX0_payAll_24 rfl ?_
        refine r_getIv dX0_payAll_25 flX0_63 (br_s _ hb) (by decide) rfl (wB_i _ _ _ (by decide)) ?_
        refine r_ic_gt 36 dX0_payAll_28 (by decide) (fun c28 => ?_) (fun c28 => ?_)
        · refine r_iinc1 (v := 1) dX0_payAll_36 (by decide) rfl ?_
          refine r_goto 2 dX0_payAll_39 (by decide) ?_
          rw [nI_1]; rw [stP, if_pos h12, if_pos c28] at k; exact k
        · refine r_aload_n dX0_payAll_31 rfl ?_
          refine r_iload_n dX0_payAll_32 rfl ?_
          refine r_cV1v dX0_payAll_33 vlX0_162 (br_s _ hb) (Nat.le_of_ble_eq_true rfl) (k_payOut hP hb hv (hv.i hj) (d + 2)) ?_
          refine r_iinc1 (v := 1) dX0_payAll_36 (by decide) rfl ?_
          refine r_goto 2 dX0_payAll_39 (by decide) ?_
          rw [nI_1]; rw [stP, if_pos h12, if_neg c28] at k; rw [hv.c hj]; exact k
    · refine r_cV1i dX0_payAll_12 vlX0_159 (br_s _ hb) (Nat.le_of_ble_eq_true rfl) (k_canPay_f hP hb hv h12 d) ?_
      refine r_if_eq 36 dX0_payAll_15 (by decide) (fun c15 => ?_) (fun c15 => ?_)
      · refine r_iinc1 (v := 1) dX0_payAll_36 (by decide) rfl ?_
        refine r_goto 2 dX0_payAll_39 (by decide) ?_
        rw [nI_1]; rw [stP, if_neg h12] at k; exact k
      · exact absurd c15 (by decide)
theorem l_frayAll {E : xCl} {ex : Bool} {I V : Nat → Nat → Int32} {J : Nat → Nat → Int64} {P : Nat → Nat → Nat} (hP : Pok P) {b : Nat} (hb : b ∈ BR) {t : Nat} (ht : t ∈ TL) (hbt : P b 0 = t + 1) {n : Nat} (hv : Vok V n) (hL : Lok I t) (d : Nat) : ∀ j, j ≤ n → ∀ J1, Jok J J1 t → xR (xEx E ex (d + 5)) ex none yX0_frayAll cX0_frayAll none 2 [some (.ref b), some (.int (nI j))] [] (SH, wB I b (sFA V (Lv I t) j), J1, P) (Qj (wB I b (sFA V (Lv I t) n)) J P t none) := by
  refine r_for (fun j => ∀ J1, Jok J J1 t → xR (xEx E ex (d + 5)) ex none yX0_frayAll cX0_frayAll none 2 [some (.ref b), some (.int (nI j))] [] (SH, wB I b (sFA V (Lv I t) j), J1, P) (Qj (wB I b (sFA V (Lv I t) n)) J P t none)) _ ?_ ?_
  · intro j hj ih J1 hJ
    exact t_frayAll (J0 := J) hP hb ht hbt (hv.okFA (Lv I t) j) hL hj d (fun J2 h2 => ih J2 (hJ.tr h2))
  · intro J1 hJ
    refine r_iload_n dX0_frayAll_2 rfl ?_
    refine r_aload_n dX0_frayAll_3 rfl ?_
    refine r_getIv dX0_frayAll_4 flX0_57 (br_s _ hb) (by decide) rfl (wB_i _ _ _ (by decide)) ?_
    refine r_ic_ge 56 dX0_frayAll_7 (by decide) (fun c7 => ?_) (fun c7 => ?_)
    · exact r_vretq dX0_frayAll_56 rfl (Qj.mk hJ)
    · exact absurd ((hv.okFA (Lv I t)) n).l c7
set_option maxHeartbeats 1000000 in
theorem k_frayAll {E : xCl} {ex : Bool} {I V : Nat → Nat → Int32} {J : Nat → Nat → Int64} {P : Nat → Nat → Nat} (hP : Pok P) {b : Nat} (hb : b ∈ BR) {t : Nat} (ht : t ∈ TL) (hbt : P b 0 = t + 1) {n : Nat} (hv : Vok V n) (hL : Lok I t) (d : Nat) : ∃ J', xEx E ex (d + 6) yX0_frayAll [.ref b] (SH, wB I b V, J, P) none (SH, wB I b (sFA V (Lv I t) n), J', P) ∧ Jok J J' t := by
  refine Qj.use (x_enterq (d := d + 5) cqX0_frayAll [some (.ref b), none] rfl (by simp [lg_sl, Value.category]) ?_)
  refine r_iconst (v := 0) dX0_frayAll_0 (by decide) ?_
  refine r_istore_n1 dX0_frayAll_1 rfl ?_
  exact l_frayAll hP hb ht hbt hv hL d 0 (Nat.zero_le n) J (Jok.rf J t)
theorem l_growAll {E : xCl} {ex : Bool} {I V : Nat → Nat → Int32} {J : Nat → Nat → Int64} {P : Nat → Nat → Nat} (hP : Pok P) {b : Nat} (hb : b ∈ BR) {t : Nat} (ht : t ∈ TL) (hbt : P b 0 = t + 1) {n : Nat} (hv : Vok V n) (hL : Lok I t) (d : Nat) : ∀ j, j ≤ n → ∀ J1, Jok J J1 t → xR (xEx E ex (d + 5)) ex none yX0_growAll cX0_growAll none 2 [some (.ref b), some (.int (nI j))] [] (SH, wB I b (sGA V (Lv I t) j), J1, P) (Qj (wB I b (sGA V (Lv I t) n)) J P t none) := by
  refine r_for (fun j => ∀ J1, Jok J J1 t → xR (xEx E ex (d + 5)) ex none yX0_growAll cX0_growAll none 2 [some (.ref b), some (.int (nI j))] [] (SH, wB I b (sGA V (Lv I t) j), J1, P) (Qj (wB I b (sGA V (Lv I t) n)) J P t none)) _ ?_ ?_
  · intro j hj ih J1 hJ
    exact t_growAll (J0 := J) hP hb ht hbt (hv.okGA (Lv I t) j) hL hj d (fun J2 h2 => ih J2 (hJ.tr h2))
  · intro J1 hJ
    refine r_iload_n dX0_growAll_2 rfl ?_
    refine r_aload_n dX0_growAll_3 rfl ?_
    refine r_getIv dX0_growAll_4 flX0_57 (br_s _ hb) (by decide) rfl (wB_i _ _ _ (by decide)) ?_
    refine r_ic_ge 70 dX0_growAll_7 (by decide) (fun c7 => ?_) (fun c7 => ?_)
    · exact r_vretq dX0_growAll_70 rfl (Qj.mk hJ)
    · exact absurd ((hv.okGA (Lv I t)) n).l c7
set_option maxHeartbeats 1000000 in
theorem k_growAll {E : xCl} {ex : Bool} {I V : Nat → Nat → Int32} {J : Nat → Nat → Int64} {P : Nat → Nat → Nat} (hP : Pok P) {b : Nat} (hb : b ∈ BR) {t : Nat} (ht : t ∈ TL) (hbt : P b 0 = t + 1) {n : Nat} (hv : Vok V n) (hL : Lok I t) (d : Nat) : ∃ J', xEx E ex (d + 6) yX0_growAll [.ref b] (SH, wB I b V, J, P) none (SH, wB I b (sGA V (Lv I t) n), J', P) ∧ Jok J J' t := by
  refine Qj.use (x_enterq (d := d + 5) cqX0_growAll [some (.ref b), none] rfl (by simp [lg_sl, Value.category]) ?_)
  refine r_iconst (v := 0) dX0_growAll_0 (by decide) ?_
  refine r_istore_n1 dX0_growAll_1 rfl ?_
  exact l_growAll hP hb ht hbt hv hL d 0 (Nat.zero_le n) J (Jok.rf J t)
theorem l_payAll {E : xCl} {ex : Bool} {I V : Nat → Nat → Int32} {J1 : Nat → Nat → Int64} {P : Nat → Nat → Nat} (hP : Pok P) {b : Nat} (hb : b ∈ BR) {n : Nat} (hv : Vok V n) (d : Nat) : ∀ j, j ≤ n → xR (xEx E ex (d + 3)) ex none yX0_payAll cX0_payAll none 2 [some (.ref b), some (.int (nI j))] [] (SH, wB I b (sPA V j), J1, P) (xEq none (SH, wB I b (sPA V n), J1, P)) := by
  refine r_for (fun j => xR (xEx E ex (d + 3)) ex none yX0_payAll cX0_payAll none 2 [some (.ref b), some (.int (nI j))] [] (SH, wB I b (sPA V j), J1, P) (xEq none (SH, wB I b (sPA V n), J1, P))) _ ?_ ?_
  · intro j hj ih
    exact t_payAll (J0 := J1) hP hb (hv.okPA j) hj d ih
  · refine r_iload_n dX0_payAll_2 rfl ?_
    refine r_aload_n dX0_payAll_3 rfl ?_
    refine r_getIv dX0_payAll_4 flX0_57 (br_s _ hb) (by decide) rfl (wB_i _ _ _ (by decide)) ?_
    refine r_ic_ge 42 dX0_payAll_7 (by decide) (fun c7 => ?_) (fun c7 => ?_)
    · exact r_vret dX0_payAll_42 rfl rfl rfl
    · exact absurd (hv.okPA n).l c7
set_option maxHeartbeats 1000000 in
theorem k_payAll {E : xCl} {ex : Bool} {I V : Nat → Nat → Int32} {J : Nat → Nat → Int64} {P : Nat → Nat → Nat} (hP : Pok P) {b : Nat} (hb : b ∈ BR) {n : Nat} (hv : Vok V n) (d : Nat) : xEx E ex (d + 4) yX0_payAll [.ref b] (SH, wB I b V, J, P) none (SH, wB I b (sPA V n), J, P) := by
  refine x_enter cqX0_payAll [some (.ref b), none] rfl (by simp [lg_sl, Value.category]) ?_
  refine r_iconst (v := 0) dX0_payAll_0 (by decide) ?_
  refine r_istore_n1 dX0_payAll_1 rfl ?_
  exact l_payAll hP hb hv d 0 (Nat.zero_le n)
