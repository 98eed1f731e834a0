/-! the class itself: what is asked -/
theorem sh_0 : SH[0]? = some (.inl 10, 19) := by decide +kernel
theorem pf_0_0 {P : Nat → Nat → Nat} (h : Pok P) : P 0 0 = 1 + 1 := h.at (by decide +kernel)
theorem pf_0_4 {P : Nat → Nat → Nat} (h : Pok P) : P 0 4 = 2 + 1 := h.at (by decide +kernel)
theorem pf_0_6 {P : Nat → Nat → Nat} (h : Pok P) : P 0 6 = 44 + 1 := h.at (by decide +kernel)
theorem pf_0_7 {P : Nat → Nat → Nat} (h : Pok P) : P 0 7 = 56 + 1 := h.at (by decide +kernel)
theorem pf_0_8 {P : Nat → Nat → Nat} (h : Pok P) : P 0 8 = 68 + 1 := h.at (by decide +kernel)
theorem pf_0_10 {P : Nat → Nat → Nat} (h : Pok P) : P 0 10 = 80 + 1 := h.at (by decide +kernel)
theorem pf_0_11 {P : Nat → Nat → Nat} (h : Pok P) : P 0 11 = 92 + 1 := h.at (by decide +kernel)
theorem pf_0_14 {P : Nat → Nat → Nat} (h : Pok P) : P 0 14 = 93 + 1 := h.at (by decide +kernel)
theorem pf_0_15 {P : Nat → Nat → Nat} (h : Pok P) : P 0 15 = 98 + 1 := h.at (by decide +kernel)
theorem pf_0_16 {P : Nat → Nat → Nat} (h : Pok P) : P 0 16 = 101 + 1 := h.at (by decide +kernel)
theorem pf_0_17 {P : Nat → Nat → Nat} (h : Pok P) : P 0 17 = 103 + 1 := h.at (by decide +kernel)
theorem pf_0_18 {P : Nat → Nat → Nat} (h : Pok P) : P 0 18 = 106 + 1 := h.at (by decide +kernel)
theorem sh_1 : SH[1]? = some (.inr 1, 700) := by decide +kernel
theorem sh_2 : SH[2]? = some (.inl 7, 7) := by decide +kernel
theorem pf_2_0 {P : Nat → Nat → Nat} (h : Pok P) : P 2 0 = 28 + 1 := h.at (by decide +kernel)
theorem pf_2_1 {P : Nat → Nat → Nat} (h : Pok P) : P 2 1 = 29 + 1 := h.at (by decide +kernel)
theorem pf_2_3 {P : Nat → Nat → Nat} (h : Pok P) : P 2 3 = 16 + 1 := h.at (by decide +kernel)
theorem sh_28 : SH[28]? = some (.inl 8, 6) := by decide +kernel
theorem pf_28_0 {P : Nat → Nat → Nat} (h : Pok P) : P 28 0 = 1 + 1 := h.at (by decide +kernel)
theorem sh_29 : SH[29]? = some (.inl 1, 7) := by decide +kernel
theorem pf_29_0 {P : Nat → Nat → Nat} (h : Pok P) : P 29 0 = 28 + 1 := h.at (by decide +kernel)
theorem pf_29_1 {P : Nat → Nat → Nat} (h : Pok P) : P 29 1 = 30 + 1 := h.at (by decide +kernel)
theorem sh_30 : SH[30]? = some (.inr 0, 72) := by decide +kernel
theorem sh_92 : SH[92]? = some (.inr 4, 20) := by decide +kernel
theorem hb56 : 56 ∈ BR := by decide
theorem hb80 : 80 ∈ BR := by decide
theorem hb44 : 44 ∈ BR := by decide
theorem hb68 : 68 ∈ BR := by decide
abbrev isP (I : Nat → Nat → Int32) (t : Nat) (p : Int32) : Prop := ¬ p < 0 ∧ ¬ I t 3 ≤ p
set_option maxHeartbeats 1000000 in
theorem k_isPerson_t {E : xCl} {ex : Bool} {I V : Nat → Nat → Int32} {J : Nat → Nat → Int64} {P : Nat → Nat → Nat} (hP : Pok P) {t : Nat} (ht : t ∈ TL) (hx5 : P 0 5 = t + 1) (hbt : P 56 0 = t + 1) {p : Int32} (h : isP I t p) (d : Nat) : xEx E ex (d + 1) yX10_isPerson [.ref 0, .int p] (SH, wB I 56 V, J, P) (some (.int 1)) (SH, wB I 56 V, J, P) := by
  refine x_enter cqX10_isPerson [some (.ref 0), some (.int p)] rfl (by simp [lg_sl, Value.category]) ?_
  refine r_iload_n dX10_isPerson_0 rfl ?_
  refine r_if_lt 19 dX10_isPerson_1 (by decide) (fun c1 => ?_) (fun c1 => ?_)
  · refine r_iconst (v := 0) dX10_isPerson_19 (by decide) ?_
    exact r_iret dX10_isPerson_20 rfl rfl (by simp_all [isP]) rfl
  · refine r_iload_n dX10_isPerson_4 rfl ?_
    refine r_aload_n dX10_isPerson_5 rfl ?_
    refine r_getR dX10_isPerson_6 flX10_29 sh_0 (by decide) rfl hx5 ?_
    refine r_getIv dX10_isPerson_9 flX10_169 (tl_s _ ht) (by decide) rfl (wB_t0 _ hb56 _ ht _) ?_
    refine r_ic_ge 19 dX10_isPerson_12 (by decide) (fun c12 => ?_) (fun c12 => ?_)
    · refine r_iconst (v := 0) dX10_isPerson_19 (by decide) ?_
      exact r_iret dX10_isPerson_20 rfl rfl (by simp_all [isP]) rfl
    · refine r_iconst (v := 1) dX10_isPerson_15 (by decide) ?_
      refine r_goto 20 dX10_isPerson_16 (by decide) ?_
      exact r_iret dX10_isPerson_20 rfl rfl (by simp_all [isP]) rfl
set_option maxHeartbeats 1000000 in
theorem k_isPerson_f {E : xCl} {ex : Bool} {I V : Nat → Nat → Int32} {J : Nat → Nat → Int64} {P : Nat → Nat → Nat} (hP : Pok P) {t : Nat} (ht : t ∈ TL) (hx5 : P 0 5 = t + 1) (hbt : P 56 0 = t + 1) {p : Int32} (h : ¬ isP I t p) (d : Nat) : xEx E ex (d + 1) yX10_isPerson [.ref 0, .int p] (SH, wB I 56 V, J, P) (some (.int 0)) (SH, wB I 56 V, J, P) := by
  refine x_enter cqX10_isPerson [some (.ref 0), some (.int p)] rfl (by simp [lg_sl, Value.category]) ?_
  refine r_iload_n dX10_isPerson_0 rfl ?_
  refine r_if_lt 19 dX10_isPerson_1 (by decide) (fun c1 => ?_) (fun c1 => ?_)
  · refine r_iconst (v := 0) dX10_isPerson_19 (by decide) ?_
    exact r_iret dX10_isPerson_20 rfl rfl (by simp_all [isP]) rfl
  · refine r_iload_n dX10_isPerson_4 rfl ?_
    refine r_aload_n dX10_isPerson_5 rfl ?_
    refine r_getR dX10_isPerson_6 flX10_29 sh_0 (by decide) rfl hx5 ?_
    refine r_getIv dX10_isPerson_9 flX10_169 (tl_s _ ht) (by decide) rfl (wB_t0 _ hb56 _ ht _) ?_
    refine r_ic_ge 19 dX10_isPerson_12 (by decide) (fun c12 => ?_) (fun c12 => ?_)
    · refine r_iconst (v := 0) dX10_isPerson_19 (by decide) ?_
      exact r_iret dX10_isPerson_20 rfl rfl (by simp_all [isP]) rfl
    · refine r_iconst (v := 1) dX10_isPerson_15 (by decide) ?_
      refine r_goto 20 dX10_isPerson_16 (by decide) ?_
      exact r_iret dX10_isPerson_20 rfl rfl (by simp_all [isP]) rfl
def sPn (f : Nat → Int32) (x : Int32) : Nat → Nat → Int32
  | 0, _ => -1
  | c + 1, j => if f j = x then nI j else sPn f x c (j + 1)
theorem in6 {j : Nat} (h : j < 6) : vp_in (nI j) 6 := vp_in_nI h (by omega)
theorem cl6 {j : Nat} (h : j < 6) : (nI j).toNatClampNeg = j := nI_clamp (by omega)
theorem lt6 {j : Nat} (h : j < 6) : ¬ (6 : Int32) ≤ nI j := fun q => nI_ge (a := j) (b := 6) h (by omega) q
theorem l_personNamed {E : xCl} {ex : Bool} {I : Nat → Nat → Int32} {J : Nat → Nat → Int64} {P : Nat → Nat → Nat} (hP : Pok P) {t : Nat} (ht : t ∈ TL) {n : Nat} (hn : n ≤ 6) (hp : I t 3 = nI n) (x : Int32) (d : Nat) : ∀ c j, j + c = n → xR (xEx E ex d) ex none yX6_personNamed cX6_personNamed (some .int) 2 [some (.ref t), some (.int x), some (.int (nI j))] [] (SH, I, J, P) (xEq (some (.int (sPn (I (t + 1)) x c j))) (SH, I, J, P)) := by
  intro c
  induction c with
  | zero =>
    intro j hj
    refine r_iload_n dX6_personNamed_2 rfl ?_
    refine r_aload_n dX6_personNamed_3 rfl ?_
    refine r_getIv dX6_personNamed_4 flX6_40 (tl_s _ ht) (by decide) rfl hp ?_
    refine r_ic_ge 34 dX6_personNamed_7 (by decide) (fun c7 => ?_) (fun c7 => ?_)
    · refine r_iconst (v := (-1)) dX6_personNamed_34 (by decide) ?_
      exact r_iret dX6_personNamed_35 rfl rfl rfl rfl
    · exact absurd (nI_le (by omega) (by omega)) c7
  | succ c ih =>
    intro j hj
    refine r_iload_n dX6_personNamed_2 rfl ?_
    refine r_aload_n dX6_personNamed_3 rfl ?_
    refine r_getIv dX6_personNamed_4 flX6_40 (tl_s _ ht) (by decide) rfl hp ?_
    refine r_ic_ge 34 dX6_personNamed_7 (by decide) (fun c7 => ?_) (fun c7 => ?_)
    · exact absurd c7 (nI_ge (by omega) (by omega))
    · refine r_iload_n dX6_personNamed_10 rfl ?_
      refine r_bipush (v := 6) dX6_personNamed_11 (by decide) ?_
      refine r_ic_ge 34 dX6_personNamed_13 (by decide) (fun c13 => ?_) (fun c13 => ?_)
      · exact absurd c13 (lt6 (by omega))
      · refine r_aload_n dX6_personNamed_16 rfl ?_
        refine r_getR dX6_personNamed_17 flX6_9 (tl_s _ ht) (by decide) rfl (tl_p0 hP _ ht) ?_
        refine r_iload_n dX6_personNamed_20 rfl ?_
        refine r_ialv dX6_personNamed_21 (tl_a0 _ ht) (in6 (by omega)) (congrArg (I (t + 1)) (cl6 (by omega))) ?_
        refine r_iload_n dX6_personNamed_22 rfl ?_
        refine r_ic_ne 28 dX6_personNamed_23 (by decide) (fun c23 => ?_) (fun c23 => ?_)
        · refine r_iinc2 (v := 1) dX6_personNamed_28 (by decide) rfl ?_
          refine r_goto 2 dX6_personNamed_31 (by decide) ?_
          rw [nI_1]; rw [sPn, if_neg c23]; exact ih (j + 1) (by omega)
        · refine r_iload_n dX6_personNamed_26 rfl ?_
          exact r_iret dX6_personNamed_27 rfl rfl (by rw [sPn, if_pos c23]) rfl
set_option maxHeartbeats 1000000 in
theorem k_personNamed {E : xCl} {ex : Bool} {I : Nat → Nat → Int32} {J : Nat → Nat → Int64} {P : Nat → Nat → Nat} (hP : Pok P) {t : Nat} (ht : t ∈ TL) {n : Nat} (hn : n ≤ 6) (hp : I t 3 = nI n) (x : Int32) (d : Nat) : xEx E ex (d + 1) yX6_personNamed [.ref t, .int x] (SH, I, J, P) (some (.int (sPn (I (t + 1)) x n 0))) (SH, I, J, P) := by
  refine x_enter cqX6_personNamed [some (.ref t), some (.int x), none] rfl (by simp [lg_sl, Value.category]) ?_
  refine r_iconst (v := 0) dX6_personNamed_0 (by decide) ?_
  refine r_istore_n2 dX6_personNamed_1 rfl ?_
  exact l_personNamed hP ht hn hp x d n 0 (by omega)
set_option maxHeartbeats 1000000 in
theorem k_named {E : xCl} {ex : Bool} {I : Nat → Nat → Int32} {J : Nat → Nat → Int64} {P : Nat → Nat → Nat} (hP : Pok P) {t : Nat} (ht : t ∈ TL) (hx5 : P 0 5 = t + 1) {n : Nat} (hn : n ≤ 6) (hp : I t 3 = nI n) (x : Int32) (d : Nat) : xEx E ex (d + 2) yX10_named [.ref 0, .int x] (SH, I, J, P) (some (.int (sPn (I (t + 1)) x n 0))) (SH, I, J, P) := by
  refine x_enter cqX10_named [some (.ref 0), some (.int x)] rfl (by simp [lg_sl, Value.category]) ?_
  refine r_aload_n dX10_named_0 rfl ?_
  refine r_getR dX10_named_1 flX10_29 sh_0 (by decide) rfl hx5 ?_
  refine r_iload_n dX10_named_4 rfl ?_
  refine r_cV1i dX10_named_5 vlX10_133 (tl_s _ ht) (Nat.le_of_ble_eq_true rfl) (k_personNamed hP ht hn hp x d) ?_
  exact r_iret dX10_named_8 rfl rfl rfl rfl
def sFa (I : Nat → Nat → Int32) (w : Int32) : Int32 := if w = 0 then I 0 2 else if w = 1 then I 0 3 else -1
set_option maxHeartbeats 1000000 in
theorem k_fault {E : xCl} {ex : Bool} {I : Nat → Nat → Int32} {J : Nat → Nat → Int64} {P : Nat → Nat → Nat} (w : Int32) (d : Nat) : xEx E ex (d + 1) yX10_fault [.ref 0, .int w] (SH, I, J, P) (some (.int (sFa I w))) (SH, I, J, P) := by
  refine x_enter cqX10_fault [some (.ref 0), some (.int w)] rfl (by simp [lg_sl, Value.category]) ?_
  refine r_iload_n dX10_fault_0 rfl ?_
  refine r_if_ne 9 dX10_fault_1 (by decide) (fun c1 => ?_) (fun c1 => ?_)
  · refine r_iload_n dX10_fault_9 rfl ?_
    refine r_iconst (v := 1) dX10_fault_10 (by decide) ?_
    refine r_ic_ne 21 dX10_fault_11 (by decide) (fun c11 => ?_) (fun c11 => ?_)
    · refine r_iconst (v := (-1)) dX10_fault_21 (by decide) ?_
      exact r_iret dX10_fault_22 rfl rfl (by rw [sFa, if_neg c1, if_neg c11]) rfl
    · refine r_aload_n dX10_fault_14 rfl ?_
      refine r_getI dX10_fault_15 flX10_13 sh_0 (by decide) rfl ?_
      refine r_goto 22 dX10_fault_18 (by decide) ?_
      exact r_iret dX10_fault_22 rfl rfl (by rw [sFa, if_neg c1, if_pos c11]) rfl
  · refine r_aload_n dX10_fault_4 rfl ?_
    refine r_getI dX10_fault_5 flX10_107 sh_0 (by decide) rfl ?_
    exact r_iret dX10_fault_8 rfl rfl (by rw [sFa, if_pos c1]) rfl
set_option maxHeartbeats 1000000 in
theorem k_bears {E : xCl} {ex : Bool} {I V : Nat → Nat → Int32} {J : Nat → Nat → Int64} {P : Nat → Nat → Nat} (hP : Pok P) {t : Nat} (ht : t ∈ TL) (hx5 : P 0 5 = t + 1) (hbt : P 56 0 = t + 1) {n : Nat} (hv : Vok V n) (hL : Lok I t) (d : Nat) : ∃ J', xEx E ex (d + 7) yX10_bears [.ref 0] (SH, wB I 56 V, J, P) (some (.int (sBr V (Lv I t) n))) (SH, wB I 56 V, J', P) ∧ Jok J J' t := by
  refine Qj.use (x_enterq (d := d + 6) cqX10_bears [some (.ref 0)] rfl (by simp [lg_sl, Value.category]) ?_)
  refine r_aload_n dX10_bears_0 rfl ?_
  refine r_getR dX10_bears_1 flX10_42 sh_0 (by decide) rfl (pf_0_7 hP) ?_
  obtain ⟨J4, hx4, hj4⟩ := k_bridgeBears (E := E) (ex := ex) (J := J) hP hb56 ht hbt hv hL (d + 0)
  refine r_cV0i dX10_bears_4 vlX10_239 (br_s _ hb56) (Nat.le_of_ble_eq_true rfl) hx4 ?_
  exact r_iretq dX10_bears_7 rfl rfl (Qj.mk hj4)
def sSg (B w : Int32) : Int32 := if w < 1 then -1 else if w ≤ 999 then sSag w B else -1
set_option maxHeartbeats 1000000 in
theorem k_sag {E : xCl} {ex : Bool} {I V : Nat → Nat → Int32} {J : Nat → Nat → Int64} {P : Nat → Nat → Nat} (hP : Pok P) {t : Nat} (ht : t ∈ TL) (hx5 : P 0 5 = t + 1) (hbt : P 56 0 = t + 1) {n : Nat} (hv : Vok V n) (hL : Lok I t) (w : Int32) (d : Nat) : ∃ J', xEx E ex (d + 7) yX10_sag [.ref 0, .int w] (SH, wB I 56 V, J, P) (some (.int (sSg (sBr V (Lv I t) n) w))) (SH, wB I 56 V, J', P) ∧ Jok J J' t := by
  refine Qj.use (x_enterq (d := d + 6) cqX10_sag [some (.ref 0), some (.int w)] rfl (by simp [lg_sl, Value.category]) ?_)
  refine r_iload_n dX10_sag_0 rfl ?_
  refine r_iconst (v := 1) dX10_sag_1 (by decide) ?_
  refine r_ic_lt 12 dX10_sag_2 (by decide) (fun c2 => ?_) (fun c2 => ?_)
  · refine r_iconst (v := (-1)) dX10_sag_12 (by decide) ?_
    exact r_iretq dX10_sag_13 rfl rfl (by rw [sSg, if_pos c2]; exact Qj.mk (Jok.rf J t))
  · refine r_iload_n dX10_sag_5 rfl ?_
    refine r_sipush (v := 999) dX10_sag_6 (by decide) ?_
    refine r_ic_le 14 dX10_sag_9 (by decide) (fun c9 => ?_) (fun c9 => ?_)
    · refine r_iload_n dX10_sag_14 rfl ?_
      refine r_aload_n dX10_sag_15 rfl ?_
      refine r_getR dX10_sag_16 flX10_42 sh_0 (by decide) rfl (pf_0_7 hP) ?_
      obtain ⟨J19, hx19, hj19⟩ := k_bridgeBears (E := E) (ex := ex) (J := J) hP hb56 ht hbt hv hL (d + 0)
      refine r_cV0i dX10_sag_19 vlX10_239 (br_s _ hb56) (Nat.le_of_ble_eq_true rfl) hx19 ?_
      refine r_cS2i dX10_sag_22 slX10_243 (Nat.le_of_ble_eq_true rfl) (k_sagOf _ _ (d + 5)) ?_
      exact r_iretq dX10_sag_25 rfl rfl (by rw [sSg, if_neg c2, if_pos c9]; exact Qj.mk hj19)
    · refine r_iconst (v := (-1)) dX10_sag_12 (by decide) ?_
      exact r_iretq dX10_sag_13 rfl rfl (by rw [sSg, if_neg c2, if_neg c9]; exact Qj.mk (Jok.rf J t))
theorem tsout_0_8 {k : Int32} (q0 : ¬ k = 0) (q1 : ¬ k = 1) (q2 : ¬ k = 2) (q3 : ¬ k = 3) (q4 : ¬ k = 4) (q5 : ¬ k = 5) (q6 : ¬ k = 6) (q7 : ¬ k = 7) (q8 : ¬ k = 8) : k.toInt < 0 ∨ 8 < k.toInt := by
  rcases Int.lt_or_le k.toInt 0 with h | h
  · exact Or.inl h
  · right
    apply Classical.byContradiction
    intro h2
    have h3 : k.toInt = 0 ∨ k.toInt = 1 ∨ k.toInt = 2 ∨ k.toInt = 3 ∨ k.toInt = 4 ∨ k.toInt = 5 ∨ k.toInt = 6 ∨ k.toInt = 7 ∨ k.toInt = 8 := by omega
    rcases h3 with h3 | h3 | h3 | h3 | h3 | h3 | h3 | h3 | h3
    · exact q0 (Int32.toInt_inj.mp (h3.trans (by decide)))
    · exact q1 (Int32.toInt_inj.mp (h3.trans (by decide)))
    · exact q2 (Int32.toInt_inj.mp (h3.trans (by decide)))
    · exact q3 (Int32.toInt_inj.mp (h3.trans (by decide)))
    · exact q4 (Int32.toInt_inj.mp (h3.trans (by decide)))
    · exact q5 (Int32.toInt_inj.mp (h3.trans (by decide)))
    · exact q6 (Int32.toInt_inj.mp (h3.trans (by decide)))
    · exact q7 (Int32.toInt_inj.mp (h3.trans (by decide)))
    · exact q8 (Int32.toInt_inj.mp (h3.trans (by decide)))
def sSr (V : Nat → Nat → Int32) (Lw : Nat → (Nat → Int64) → Int64) (s w : Int32) : Int32 := if sSt V s then (if w = 0 then V 3 s.toNatClampNeg else if w = 1 then V 4 s.toNatClampNeg else if w = 2 then V 5 s.toNatClampNeg else if w = 3 then V 6 s.toNatClampNeg else if w = 4 then V 7 s.toNatClampNeg else if w = 5 then V 9 s.toNatClampNeg else if w = 6 then sAl V Lw s (sTwo V s) else if w = 7 then V 10 s.toNatClampNeg else if w = 8 then V 8 s.toNatClampNeg else -1) else -1
set_option maxHeartbeats 1000000 in
theorem k_strand {E : xCl} {ex : Bool} {I V : Nat → Nat → Int32} {J : Nat → Nat → Int64} {P : Nat → Nat → Nat} (hP : Pok P) {t : Nat} (ht : t ∈ TL) (hx5 : P 0 5 = t + 1) (hbt : P 56 0 = t + 1) {n : Nat} (hv : Vok V n) (hL : Lok I t) (s w : Int32) (d : Nat) : ∃ J', xEx E ex (d + 6) yX10_strand [.ref 0, .int s, .int w] (SH, wB I 56 V, J, P) (some (.int (sSr V (Lv I t) s w))) (SH, wB I 56 V, J', P) ∧ Jok J J' t := by
  refine Qj.use (x_enterq (d := d + 5) cqX10_strand [some (.ref 0), some (.int s), some (.int w)] rfl (by simp [lg_sl, Value.category]) ?_)
  refine r_aload_n dX10_strand_0 rfl ?_
  refine r_getR dX10_strand_1 flX10_42 sh_0 (by decide) rfl (pf_0_7 hP) ?_
  refine r_iload_n dX10_strand_4 rfl ?_
  by_cases h5 : sSt V s
  · refine r_cV1i dX10_strand_5 vlX10_172 (br_s _ hb56) (Nat.le_of_ble_eq_true rfl) (k_isStrand_t hb56 h5 (d + 4)) ?_
    refine r_if_ne 13 dX10_strand_8 (by decide) (fun c8 => ?_) (fun c8 => ?_)
    · refine r_iload_n dX10_strand_13 rfl ?_
      by_cases q14_0 : w = 0
      · refine r_tsI 64 dX10_strand_14 (by rw [q14_0]; decide) (by rw [q14_0]; decide) (off := 50) (by rw [q14_0]; rfl) (by decide) ?_
        refine r_aload_n dX10_strand_64 rfl ?_
        refine r_getR dX10_strand_65 flX10_42 sh_0 (by decide) rfl (pf_0_7 hP) ?_
        refine r_getR dX10_strand_68 flX10_175 (br_s _ hb56) (by decide) rfl (br_p3 hP _ hb56) ?_
        refine r_iload_n dX10_strand_71 rfl ?_
        refine r_ialv dX10_strand_72 (br_a3 _ hb56) (vin12 h5.1 h5.2.2) (wB_a _ _ _ (by decide) (by decide) (vlt (vin12 h5.1 h5.2.2))) ?_
        exact r_iretq dX10_strand_73 rfl rfl (by rw [sSr, if_pos h5, if_pos q14_0]; exact Qj.mk (Jok.rf J t))
      by_cases q14_1 : w = 1
      · refine r_tsI 74 dX10_strand_14 (by rw [q14_1]; decide) (by rw [q14_1]; decide) (off := 60) (by rw [q14_1]; rfl) (by decide) ?_
        refine r_aload_n dX10_strand_74 rfl ?_
        refine r_getR dX10_strand_75 flX10_42 sh_0 (by decide) rfl (pf_0_7 hP) ?_
        refine r_getR dX10_strand_78 flX10_178 (br_s _ hb56) (by decide) rfl (br_p4 hP _ hb56) ?_
        refine r_iload_n dX10_strand_81 rfl ?_
        refine r_ialv dX10_strand_82 (br_a4 _ hb56) (vin12 h5.1 h5.2.2) (wB_a _ _ _ (by decide) (by decide) (vlt (vin12 h5.1 h5.2.2))) ?_
        exact r_iretq dX10_strand_83 rfl rfl (by rw [sSr, if_pos h5, if_neg q14_0, if_pos q14_1]; exact Qj.mk (Jok.rf J t))
      by_cases q14_2 : w = 2
      · refine r_tsI 84 dX10_strand_14 (by rw [q14_2]; decide) (by rw [q14_2]; decide) (off := 70) (by rw [q14_2]; rfl) (by decide) ?_
        refine r_aload_n dX10_strand_84 rfl ?_
        refine r_getR dX10_strand_85 flX10_42 sh_0 (by decide) rfl (pf_0_7 hP) ?_
        refine r_getR dX10_strand_88 flX10_181 (br_s _ hb56) (by decide) rfl (br_p5 hP _ hb56) ?_
        refine r_iload_n dX10_strand_91 rfl ?_
        refine r_ialv dX10_strand_92 (br_a5 _ hb56) (vin12 h5.1 h5.2.2) (wB_a _ _ _ (by decide) (by decide) (vlt (vin12 h5.1 h5.2.2))) ?_
        exact r_iretq dX10_strand_93 rfl rfl (by rw [sSr, if_pos h5, if_neg q14_0, if_neg q14_1, if_pos q14_2]; exact Qj.mk (Jok.rf J t))
      by_cases q14_3 : w = 3
      · refine r_tsI 94 dX10_strand_14 (by rw [q14_3]; decide) (by rw [q14_3]; decide) (off := 80) (by rw [q14_3]; rfl) (by decide) ?_
        refine r_aload_n dX10_strand_94 rfl ?_
        refine r_getR dX10_strand_95 flX10_42 sh_0 (by decide) rfl (pf_0_7 hP) ?_
        refine r_getR dX10_strand_98 flX10_184 (br_s _ hb56) (by decide) rfl (br_p6 hP _ hb56) ?_
        refine r_iload_n dX10_strand_101 rfl ?_
        refine r_ialv dX10_strand_102 (br_a6 _ hb56) (vin12 h5.1 h5.2.2) (wB_a _ _ _ (by decide) (by decide) (vlt (vin12 h5.1 h5.2.2))) ?_
        exact r_iretq dX10_strand_103 rfl rfl (by rw [sSr, if_pos h5, if_neg q14_0, if_neg q14_1, if_neg q14_2, if_pos q14_3]; exact Qj.mk (Jok.rf J t))
      by_cases q14_4 : w = 4
      · refine r_tsI 104 dX10_strand_14 (by rw [q14_4]; decide) (by rw [q14_4]; decide) (off := 90) (by rw [q14_4]; rfl) (by decide) ?_
        refine r_aload_n dX10_strand_104 rfl ?_
        refine r_getR dX10_strand_105 flX10_42 sh_0 (by decide) rfl (pf_0_7 hP) ?_
        refine r_getR dX10_strand_108 flX10_187 (br_s _ hb56) (by decide) rfl (br_p7 hP _ hb56) ?_
        refine r_iload_n dX10_strand_111 rfl ?_
        refine r_ialv dX10_strand_112 (br_a7 _ hb56) (vin12 h5.1 h5.2.2) (wB_a _ _ _ (by decide) (by decide) (vlt (vin12 h5.1 h5.2.2))) ?_
        exact r_iretq dX10_strand_113 rfl rfl (by rw [sSr, if_pos h5, if_neg q14_0, if_neg q14_1, if_neg q14_2, if_neg q14_3, if_pos q14_4]; exact Qj.mk (Jok.rf J t))
      by_cases q14_5 : w = 5
      · refine r_tsI 114 dX10_strand_14 (by rw [q14_5]; decide) (by rw [q14_5]; decide) (off := 100) (by rw [q14_5]; rfl) (by decide) ?_
        refine r_aload_n dX10_strand_114 rfl ?_
        refine r_getR dX10_strand_115 flX10_42 sh_0 (by decide) rfl (pf_0_7 hP) ?_
        refine r_getR dX10_strand_118 flX10_190 (br_s _ hb56) (by decide) rfl (br_p9 hP _ hb56) ?_
        refine r_iload_n dX10_strand_121 rfl ?_
        refine r_ialv dX10_strand_122 (br_a9 _ hb56) (vin12 h5.1 h5.2.2) (wB_a _ _ _ (by decide) (by decide) (vlt (vin12 h5.1 h5.2.2))) ?_
        exact r_iretq dX10_strand_123 rfl rfl (by rw [sSr, if_pos h5, if_neg q14_0, if_neg q14_1, if_neg q14_2, if_neg q14_3, if_neg q14_4, if_pos q14_5]; exact Qj.mk (Jok.rf J t))
      by_cases q14_6 : w = 6
      · refine r_tsI 124 dX10_strand_14 (by rw [q14_6]; decide) (by rw [q14_6]; decide) (off := 110) (by rw [q14_6]; rfl) (by decide) ?_
        refine r_aload_n dX10_strand_124 rfl ?_
        refine r_getR dX10_strand_125 flX10_42 sh_0 (by decide) rfl (pf_0_7 hP) ?_
        refine r_iload_n dX10_strand_128 rfl ?_
        refine r_aload_n dX10_strand_129 rfl ?_
        refine r_getR dX10_strand_130 flX10_42 sh_0 (by decide) rfl (pf_0_7 hP) ?_
        refine r_iload_n dX10_strand_133 rfl ?_
        refine r_cV1i dX10_strand_134 vlX10_193 (br_s _ hb56) (Nat.le_of_ble_eq_true rfl) (k_twoOf hP hb56 (vin12 h5.1 h5.2.2) (d + 2)) ?_
        obtain ⟨J137, hx137, hj137⟩ := k_alone (E := E) (ex := ex) (J := J) hP hb56 ht hbt hv hL s (sTwo V s) d
        refine r_cV2i dX10_strand_137 vlX10_196 (br_s _ hb56) (Nat.le_of_ble_eq_true rfl) hx137 ?_
        exact r_iretq dX10_strand_140 rfl rfl (by rw [sSr, if_pos h5, if_neg q14_0, if_neg q14_1, if_neg q14_2, if_neg q14_3, if_neg q14_4, if_neg q14_5, if_pos q14_6]; exact Qj.mk hj137)
      by_cases q14_7 : w = 7
      · refine r_tsI 141 dX10_strand_14 (by rw [q14_7]; decide) (by rw [q14_7]; decide) (off := 127) (by rw [q14_7]; rfl) (by decide) ?_
        refine r_aload_n dX10_strand_141 rfl ?_
        refine r_getR dX10_strand_142 flX10_42 sh_0 (by decide) rfl (pf_0_7 hP) ?_
        refine r_getR dX10_strand_145 flX10_199 (br_s _ hb56) (by decide) rfl (br_p10 hP _ hb56) ?_
        refine r_iload_n dX10_strand_148 rfl ?_
        refine r_ialv dX10_strand_149 (br_a10 _ hb56) (vin12 h5.1 h5.2.2) (wB_a _ _ _ (by decide) (by decide) (vlt (vin12 h5.1 h5.2.2))) ?_
        exact r_iretq dX10_strand_150 rfl rfl (by rw [sSr, if_pos h5, if_neg q14_0, if_neg q14_1, if_neg q14_2, if_neg q14_3, if_neg q14_4, if_neg q14_5, if_neg q14_6, if_pos q14_7]; exact Qj.mk (Jok.rf J t))
      by_cases q14_8 : w = 8
      · refine r_tsI 151 dX10_strand_14 (by rw [q14_8]; decide) (by rw [q14_8]; decide) (off := 137) (by rw [q14_8]; rfl) (by decide) ?_
        refine r_aload_n dX10_strand_151 rfl ?_
        refine r_getR dX10_strand_152 flX10_42 sh_0 (by decide) rfl (pf_0_7 hP) ?_
        refine r_getR dX10_strand_155 flX10_202 (br_s _ hb56) (by decide) rfl (br_p8 hP _ hb56) ?_
        refine r_iload_n dX10_strand_158 rfl ?_
        refine r_ialv dX10_strand_159 (br_a8 _ hb56) (vin12 h5.1 h5.2.2) (wB_a _ _ _ (by decide) (by decide) (vlt (vin12 h5.1 h5.2.2))) ?_
        exact r_iretq dX10_strand_160 rfl rfl (by rw [sSr, if_pos h5, if_neg q14_0, if_neg q14_1, if_neg q14_2, if_neg q14_3, if_neg q14_4, if_neg q14_5, if_neg q14_6, if_neg q14_7, if_pos q14_8]; exact Qj.mk (Jok.rf J t))
      refine r_tsO 161 dX10_strand_14 (tsout_0_8 q14_0 q14_1 q14_2 q14_3 q14_4 q14_5 q14_6 q14_7 q14_8) (by decide) ?_
      refine r_iconst (v := (-1)) dX10_strand_161 (by decide) ?_
      exact r_iretq dX10_strand_162 rfl rfl (by rw [sSr, if_pos h5, if_neg q14_0, if_neg q14_1, if_neg q14_2, if_neg q14_3, if_neg q14_4, if_neg q14_5, if_neg q14_6, if_neg q14_7, if_neg q14_8]; exact Qj.mk (Jok.rf J t))
    · exact absurd c8 (by decide)
  · refine r_cV1i dX10_strand_5 vlX10_172 (br_s _ hb56) (Nat.le_of_ble_eq_true rfl) (k_isStrand_f hb56 h5 (d + 4)) ?_
    refine r_if_ne 13 dX10_strand_8 (by decide) (fun c8 => ?_) (fun c8 => ?_)
    · exact absurd c8 (by decide)
    · refine r_iconst (v := (-1)) dX10_strand_11 (by decide) ?_
      exact r_iretq dX10_strand_12 rfl rfl (by rw [sSr, if_neg h5]; exact Qj.mk (Jok.rf J t))
theorem tsout_0_3 {k : Int32} (q0 : ¬ k = 0) (q1 : ¬ k = 1) (q2 : ¬ k = 2) (q3 : ¬ k = 3) : k.toInt < 0 ∨ 3 < k.toInt := by
  rcases Int.lt_or_le k.toInt 0 with h | h
  · exact Or.inl h
  · right
    apply Classical.byContradiction
    intro h2
    have h3 : k.toInt = 0 ∨ k.toInt = 1 ∨ k.toInt = 2 ∨ k.toInt = 3 := by omega
    rcases h3 with h3 | h3 | h3 | h3
    · exact q0 (Int32.toInt_inj.mp (h3.trans (by decide)))
    · exact q1 (Int32.toInt_inj.mp (h3.trans (by decide)))
    · exact q2 (Int32.toInt_inj.mp (h3.trans (by decide)))
    · exact q3 (Int32.toInt_inj.mp (h3.trans (by decide)))
def sCr (V I : Nat → Nat → Int32) (t : Nat) (c w : Int32) : Int32 := if c < 0 then -1 else if c < I t 7 then (if w = 0 then I (t + 4) c.toNatClampNeg else if w = 1 then I (t + 5) c.toNatClampNeg else if w = 2 then I (t + 6) c.toNatClampNeg else if w = 3 then V 11 c.toNatClampNeg else -1) else -1
theorem in8c {I : Nat → Nat → Int32} {t m : Nat} {c : Int32} (hm : m ≤ 8) (hc : I t 7 = nI m) (h0 : ¬ c < 0) (h1 : c < I t 7) : vp_in c 8 := by
  rw [hc] at h1
  rw [vp_in_iff]
  simp only [Int32.lt_iff_toInt_lt, Int32.toInt_zero, nI_toInt (n := m) (by omega)] at h0 h1
  omega
set_option maxHeartbeats 1000000 in
theorem k_crossing {E : xCl} {ex : Bool} {I V : Nat → Nat → Int32} {J : Nat → Nat → Int64} {P : Nat → Nat → Nat} (hP : Pok P) {t : Nat} (ht : t ∈ TL) (hx5 : P 0 5 = t + 1) (hbt : P 56 0 = t + 1) {m : Nat} (hm : m ≤ 8) (hc : I t 7 = nI m) (c w : Int32) (d : Nat) : xEx E ex (d + 1) yX10_crossing [.ref 0, .int c, .int w] (SH, wB I 56 V, J, P) (some (.int (sCr V I t c w))) (SH, wB I 56 V, J, P) := by
  refine x_enter cqX10_crossing [some (.ref 0), some (.int c), some (.int w)] rfl (by simp [lg_sl, Value.category]) ?_
  refine r_iload_n dX10_crossing_0 rfl ?_
  refine r_if_lt 15 dX10_crossing_1 (by decide) (fun c1 => ?_) (fun c1 => ?_)
  · refine r_iconst (v := (-1)) dX10_crossing_15 (by decide) ?_
    exact r_iret dX10_crossing_16 rfl rfl (by rw [sCr, if_pos c1]) rfl
  · refine r_iload_n dX10_crossing_4 rfl ?_
    refine r_aload_n dX10_crossing_5 rfl ?_
    refine r_getR dX10_crossing_6 flX10_29 sh_0 (by decide) rfl hx5 ?_
    refine r_getIv dX10_crossing_9 flX10_205 (tl_s _ ht) (by decide) rfl (wB_t0 _ hb56 _ ht _) ?_
    refine r_ic_lt 17 dX10_crossing_12 (by decide) (fun c12 => ?_) (fun c12 => ?_)
    · refine r_iload_n dX10_crossing_17 rfl ?_
      by_cases q18_0 : w = 0
      · refine r_tsI 48 dX10_crossing_18 (by rw [q18_0]; decide) (by rw [q18_0]; decide) (off := 30) (by rw [q18_0]; rfl) (by decide) ?_
        refine r_aload_n dX10_crossing_48 rfl ?_
        refine r_getR dX10_crossing_49 flX10_29 sh_0 (by decide) rfl hx5 ?_
        refine r_getR dX10_crossing_52 flX10_208 (tl_s _ ht) (by decide) rfl (tl_p4 hP _ ht) ?_
        refine r_iload_n dX10_crossing_55 rfl ?_
        refine r_ialv dX10_crossing_56 (tl_a4 _ ht) (in8c hm hc c1 c12) (wB_t _ hb56 _ ht (by decide) _) ?_
        exact r_iret dX10_crossing_57 rfl rfl (by rw [sCr, if_neg c1, if_pos c12, if_pos q18_0]) rfl
      by_cases q18_1 : w = 1
      · refine r_tsI 58 dX10_crossing_18 (by rw [q18_1]; decide) (by rw [q18_1]; decide) (off := 40) (by rw [q18_1]; rfl) (by decide) ?_
        refine r_aload_n dX10_crossing_58 rfl ?_
        refine r_getR dX10_crossing_59 flX10_29 sh_0 (by decide) rfl hx5 ?_
        refine r_getR dX10_crossing_62 flX10_211 (tl_s _ ht) (by decide) rfl (tl_p5 hP _ ht) ?_
        refine r_iload_n dX10_crossing_65 rfl ?_
        refine r_ialv dX10_crossing_66 (tl_a5 _ ht) (in8c hm hc c1 c12) (wB_t _ hb56 _ ht (by decide) _) ?_
        exact r_iret dX10_crossing_67 rfl rfl (by rw [sCr, if_neg c1, if_pos c12, if_neg q18_0, if_pos q18_1]) rfl
      by_cases q18_2 : w = 2
      · refine r_tsI 68 dX10_crossing_18 (by rw [q18_2]; decide) (by rw [q18_2]; decide) (off := 50) (by rw [q18_2]; rfl) (by decide) ?_
        refine r_aload_n dX10_crossing_68 rfl ?_
        refine r_getR dX10_crossing_69 flX10_29 sh_0 (by decide) rfl hx5 ?_
        refine r_getR dX10_crossing_72 flX10_214 (tl_s _ ht) (by decide) rfl (tl_p6 hP _ ht) ?_
        refine r_iload_n dX10_crossing_75 rfl ?_
        refine r_ialv dX10_crossing_76 (tl_a6 _ ht) (in8c hm hc c1 c12) (wB_t _ hb56 _ ht (by decide) _) ?_
        exact r_iret dX10_crossing_77 rfl rfl (by rw [sCr, if_neg c1, if_pos c12, if_neg q18_0, if_neg q18_1, if_pos q18_2]) rfl
      by_cases q18_3 : w = 3
      · refine r_tsI 78 dX10_crossing_18 (by rw [q18_3]; decide) (by rw [q18_3]; decide) (off := 60) (by rw [q18_3]; rfl) (by decide) ?_
        refine r_aload_n dX10_crossing_78 rfl ?_
        refine r_getR dX10_crossing_79 flX10_42 sh_0 (by decide) rfl (pf_0_7 hP) ?_
        refine r_getR dX10_crossing_82 flX10_217 (br_s _ hb56) (by decide) rfl (br_p11 hP _ hb56) ?_
        refine r_iload_n dX10_crossing_85 rfl ?_
        refine r_ialv dX10_crossing_86 (br_a11 _ hb56) (in8c hm hc c1 c12) (wB_a _ _ _ (by decide) (by decide) (vlt (in8c hm hc c1 c12))) ?_
        exact r_iret dX10_crossing_87 rfl rfl (by rw [sCr, if_neg c1, if_pos c12, if_neg q18_0, if_neg q18_1, if_neg q18_2, if_pos q18_3]) rfl
      refine r_tsO 88 dX10_crossing_18 (tsout_0_3 q18_0 q18_1 q18_2 q18_3) (by decide) ?_
      refine r_iconst (v := (-1)) dX10_crossing_88 (by decide) ?_
      exact r_iret dX10_crossing_89 rfl rfl (by rw [sCr, if_neg c1, if_pos c12, if_neg q18_0, if_neg q18_1, if_neg q18_2, if_neg q18_3]) rfl
    · refine r_iconst (v := (-1)) dX10_crossing_15 (by decide) ?_
      exact r_iret dX10_crossing_16 rfl rfl (by rw [sCr, if_neg c1, if_neg c12]) rfl
def sSk (V I : Nat → Nat → Int32) (t n : Nat) (a c : Int32) : Int32 := if isP I t a ∧ isP I t c ∧ ¬ a = c then (if sOw V c a n < sOw V a c n then sOw V c a n else sOw V a c n) else -1
set_option maxHeartbeats 1000000 in
theorem k_strike {E : xCl} {ex : Bool} {I V : Nat → Nat → Int32} {J : Nat → Nat → Int64} {P : Nat → Nat → Nat} (hP : Pok P) {t : Nat} (ht : t ∈ TL) (hx5 : P 0 5 = t + 1) (hbt : P 56 0 = t + 1) {n : Nat} (hv : Vok V n) (a c : Int32) (d : Nat) : xEx E ex (d + 4) yX10_strike [.ref 0, .int a, .int c] (SH, wB I 56 V, J, P) (some (.int (sSk V I t n a c))) (SH, wB I 56 V, J, P) := by
  refine x_enter cqX10_strike [some (.ref 0), some (.int a), some (.int c)] rfl (by simp [lg_sl, Value.category]) ?_
  refine r_aload_n dX10_strike_0 rfl ?_
  refine r_iload_n dX10_strike_1 rfl ?_
  by_cases h2 : isP I t a
  · refine r_cV1i dX10_strike_2 vlX10_137 sh_0 (Nat.le_of_ble_eq_true rfl) (k_isPerson_t hP ht hx5 hbt h2 (d + 2)) ?_
    refine r_if_eq 21 dX10_strike_5 (by decide) (fun c5 => ?_) (fun c5 => ?_)
    · exact absurd c5 (by decide)
    · refine r_aload_n dX10_strike_8 rfl ?_
      refine r_iload_n dX10_strike_9 rfl ?_
      by_cases h10 : isP I t c
      · refine r_cV1i dX10_strike_10 vlX10_137 sh_0 (Nat.le_of_ble_eq_true rfl) (k_isPerson_t hP ht hx5 hbt h10 (d + 2)) ?_
        refine r_if_eq 21 dX10_strike_13 (by decide) (fun c13 => ?_) (fun c13 => ?_)
        · exact absurd c13 (by decide)
        · refine r_iload_n dX10_strike_16 rfl ?_
          refine r_iload_n dX10_strike_17 rfl ?_
          refine r_ic_ne 23 dX10_strike_18 (by decide) (fun c18 => ?_) (fun c18 => ?_)
          · refine r_aload_n dX10_strike_23 rfl ?_
            refine r_getR dX10_strike_24 flX10_42 sh_0 (by decide) rfl (pf_0_7 hP) ?_
            refine r_iload_n dX10_strike_27 rfl ?_
            refine r_iload_n dX10_strike_28 rfl ?_
            refine r_cV2i dX10_strike_29 vlX10_160 (br_s _ hb56) (Nat.le_of_ble_eq_true rfl) (k_owedBetween hP hb56 hv a c d) ?_
            refine r_aload_n dX10_strike_32 rfl ?_
            refine r_getR dX10_strike_33 flX10_42 sh_0 (by decide) rfl (pf_0_7 hP) ?_
            refine r_iload_n dX10_strike_36 rfl ?_
            refine r_iload_n dX10_strike_37 rfl ?_
            refine r_cV2i dX10_strike_38 vlX10_160 (br_s _ hb56) (Nat.le_of_ble_eq_true rfl) (k_owedBetween hP hb56 hv c a d) ?_
            refine r_mmin dX10_strike_41 hlX10_246 (Nat.le_of_ble_eq_true rfl) ?_
            exact r_iret dX10_strike_44 rfl rfl (by rw [sSk, if_pos ⟨h2, h10, c18⟩]) rfl
          · refine r_iconst (v := (-1)) dX10_strike_21 (by decide) ?_
            exact r_iret dX10_strike_22 rfl rfl (by rw [sSk, if_neg (fun z => z.2.2 c18)]) rfl
      · refine r_cV1i dX10_strike_10 vlX10_137 sh_0 (Nat.le_of_ble_eq_true rfl) (k_isPerson_f hP ht hx5 hbt h10 (d + 2)) ?_
        refine r_if_eq 21 dX10_strike_13 (by decide) (fun c13 => ?_) (fun c13 => ?_)
        · refine r_iconst (v := (-1)) dX10_strike_21 (by decide) ?_
          exact r_iret dX10_strike_22 rfl rfl (by rw [sSk, if_neg (fun z => h10 z.2.1)]) rfl
        · exact absurd c13 (by decide)
  · refine r_cV1i dX10_strike_2 vlX10_137 sh_0 (Nat.le_of_ble_eq_true rfl) (k_isPerson_f hP ht hx5 hbt h2 (d + 2)) ?_
    refine r_if_eq 21 dX10_strike_5 (by decide) (fun c5 => ?_) (fun c5 => ?_)
    · refine r_iconst (v := (-1)) dX10_strike_21 (by decide) ?_
      exact r_iret dX10_strike_22 rfl rfl (by rw [sSk, if_neg (fun z => h2 z.1)]) rfl
    · exact absurd c5 (by decide)
