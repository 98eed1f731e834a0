/-! the reference: tokens -/
/-- the numbers with those of the reference's tokens: stop, next, kind, which, at -/
def wQ (I : Nat → Nat → Int32) (s i k w a : Int32) : Nat → Nat → Int32 := fun b q => if b = 347 then (if q = 6 then s else if q = 7 then i else if q = 8 then k else if q = 9 then w else if q = 10 then a else I b q) else I b q
theorem wQ_o (I : Nat → Nat → Int32) (s i k w a : Int32) {b : Nat} (h : b ≠ 347) (q : Nat) : wQ I s i k w a b q = I b q := by simp [wQ, h]
theorem wQ_f (I : Nat → Nat → Int32) (s i k w a : Int32) {q : Nat} (h : q < 6 ∨ 10 < q) : wQ I s i k w a 347 q = I 347 q := by
  simp only [wQ, if_true]
  rw [if_neg (by omega), if_neg (by omega), if_neg (by omega), if_neg (by omega), if_neg (by omega)]
theorem wQ_id {I : Nat → Nat → Int32} : wQ I (I 347 6) (I 347 7) (I 347 8) (I 347 9) (I 347 10) = I := by
  funext b q
  simp only [wQ]
  by_cases h : b = 347
  · subst h
    simp only [if_true]
    by_cases h1 : q = 6
    · rw [if_pos h1, h1]
    rw [if_neg h1]
    by_cases h1 : q = 7
    · rw [if_pos h1, h1]
    rw [if_neg h1]
    by_cases h1 : q = 8
    · rw [if_pos h1, h1]
    rw [if_neg h1]
    by_cases h1 : q = 9
    · rw [if_pos h1, h1]
    rw [if_neg h1]
    by_cases h1 : q = 10
    · rw [if_pos h1, h1]
    rw [if_neg h1]
  · rw [if_neg h]
theorem wQ_6 (I : Nat → Nat → Int32) (s i k w a : Int32) : wQ I s i k w a 347 6 = s := by simp [wQ]
theorem wQ_x6 (I : Nat → Nat → Int32) (s i k w a z : Int32) : xu (wQ I s i k w a) 347 6 z = wQ I z i k w a := by
  funext b q
  simp only [xu, wQ]
  by_cases h : b = 347
  · subst h
    by_cases h1 : q = 6
    · subst h1; simp
    · simp [h1]
  · simp [h]
theorem wQ_7 (I : Nat → Nat → Int32) (s i k w a : Int32) : wQ I s i k w a 347 7 = i := by simp [wQ]
theorem wQ_x7 (I : Nat → Nat → Int32) (s i k w a z : Int32) : xu (wQ I s i k w a) 347 7 z = wQ I s z k w a := by
  funext b q
  simp only [xu, wQ]
  by_cases h : b = 347
  · subst h
    by_cases h1 : q = 7
    · subst h1; simp
    · simp [h1]
  · simp [h]
theorem wQ_8 (I : Nat → Nat → Int32) (s i k w a : Int32) : wQ I s i k w a 347 8 = k := by simp [wQ]
theorem wQ_x8 (I : Nat → Nat → Int32) (s i k w a z : Int32) : xu (wQ I s i k w a) 347 8 z = wQ I s i z w a := by
  funext b q
  simp only [xu, wQ]
  by_cases h : b = 347
  · subst h
    by_cases h1 : q = 8
    · subst h1; simp
    · simp [h1]
  · simp [h]
theorem wQ_9 (I : Nat → Nat → Int32) (s i k w a : Int32) : wQ I s i k w a 347 9 = w := by simp [wQ]
theorem wQ_x9 (I : Nat → Nat → Int32) (s i k w a z : Int32) : xu (wQ I s i k w a) 347 9 z = wQ I s i k z a := by
  funext b q
  simp only [xu, wQ]
  by_cases h : b = 347
  · subst h
    by_cases h1 : q = 9
    · subst h1; simp
    · simp [h1]
  · simp [h]
theorem wQ_10 (I : Nat → Nat → Int32) (s i k w a : Int32) : wQ I s i k w a 347 10 = a := by simp [wQ]
theorem wQ_x10 (I : Nat → Nat → Int32) (s i k w a z : Int32) : xu (wQ I s i k w a) 347 10 z = wQ I s i k w z := by
  funext b q
  simp only [xu, wQ]
  by_cases h : b = 347
  · subst h
    by_cases h1 : q = 10
    · subst h1; simp
    · simp [h1]
  · simp [h]
set_option maxHeartbeats 1000000 in
theorem k_risSmall_t {E : xCl} {ex : Bool} {I : Nat → Nat → Int32} {J : Nat → Nat → Int64} {P : Nat → Nat → Nat} (hP : Pok P) {s : Nat} (hs : s ≤ 700) {i k w a : Int32} {j : Nat} (hj : j ≤ 700) (h : (j < s ∧ cLt (I 348 j))) (d : Nat) : xEx E ex (d + 1) yX11_isSmall [.ref 347, .int (nI j)] (SH, wQ I (nI s) i k w a, J, P) (some (.int 1)) (SH, wQ I (nI s) i k w a, J, P) := by
  refine x_enter cqX11_isSmall [some (.ref 347), some (.int (nI j))] rfl (by simp [lg_sl, Value.category]) ?_
  refine r_iload_n dX11_isSmall_0 rfl ?_
  refine r_aload_n dX11_isSmall_1 rfl ?_
  refine r_getIv dX11_isSmall_2 flX11_205 sh_347 (by decide) rfl (wQ_6 _ _ _ _ _ _) ?_
  refine r_ic_ge 34 dX11_isSmall_5 (by decide) (fun c5 => ?_) (fun c5 => ?_)
  · exact absurd c5 (nI_ge h.1 (by omega))
  · refine r_aload_n dX11_isSmall_8 rfl ?_
    refine r_getR dX11_isSmall_9 flX11_7 sh_347 (by decide) rfl (pf_347_0 hP) ?_
    refine r_iload_n dX11_isSmall_12 rfl ?_
    refine r_ialv dX11_isSmall_13 sh_348 (vp_in_nI (n := j) (Nat.lt_of_lt_of_le (Nat.lt_of_not_le (fun z => c5 (nI_le z (by omega)))) hs) (by decide)) ((wQ_o _ _ _ _ _ _ (by decide) _).trans (congrArg (I 348) (nI_clamp (n := j) (by omega)))) ?_
    refine r_bipush (v := 97) dX11_isSmall_14 (by decide) ?_
    refine r_ic_lt 34 dX11_isSmall_16 (by decide) (fun c16 => ?_) (fun c16 => ?_)
    · exact absurd c16 h.2.1
    · refine r_aload_n dX11_isSmall_19 rfl ?_
      refine r_getR dX11_isSmall_20 flX11_7 sh_347 (by decide) rfl (pf_347_0 hP) ?_
      refine r_iload_n dX11_isSmall_23 rfl ?_
      refine r_ialv dX11_isSmall_24 sh_348 (vp_in_nI (n := j) (Nat.lt_of_lt_of_le (Nat.lt_of_not_le (fun z => c5 (nI_le z (by omega)))) hs) (by decide)) ((wQ_o _ _ _ _ _ _ (by decide) _).trans (congrArg (I 348) (nI_clamp (n := j) (by omega)))) ?_
      refine r_bipush (v := 122) dX11_isSmall_25 (by decide) ?_
      refine r_ic_gt 34 dX11_isSmall_27 (by decide) (fun c27 => ?_) (fun c27 => ?_)
      · exact absurd c27 h.2.2
      · refine r_iconst (v := 1) dX11_isSmall_30 (by decide) ?_
        refine r_goto 35 dX11_isSmall_31 (by decide) ?_
        exact r_iret dX11_isSmall_35 rfl rfl rfl rfl
set_option maxHeartbeats 1000000 in
theorem k_risSmall_f {E : xCl} {ex : Bool} {I : Nat → Nat → Int32} {J : Nat → Nat → Int64} {P : Nat → Nat → Nat} (hP : Pok P) {s : Nat} (hs : s ≤ 700) {i k w a : Int32} {j : Nat} (hj : j ≤ 700) (h : ¬ (j < s ∧ cLt (I 348 j))) (d : Nat) : xEx E ex (d + 1) yX11_isSmall [.ref 347, .int (nI j)] (SH, wQ I (nI s) i k w a, J, P) (some (.int 0)) (SH, wQ I (nI s) i k w a, J, P) := by
  refine x_enter cqX11_isSmall [some (.ref 347), some (.int (nI j))] rfl (by simp [lg_sl, Value.category]) ?_
  refine r_iload_n dX11_isSmall_0 rfl ?_
  refine r_aload_n dX11_isSmall_1 rfl ?_
  refine r_getIv dX11_isSmall_2 flX11_205 sh_347 (by decide) rfl (wQ_6 _ _ _ _ _ _) ?_
  refine r_ic_ge 34 dX11_isSmall_5 (by decide) (fun c5 => ?_) (fun c5 => ?_)
  · refine r_iconst (v := 0) dX11_isSmall_34 (by decide) ?_
    exact r_iret dX11_isSmall_35 rfl rfl rfl rfl
  · refine r_aload_n dX11_isSmall_8 rfl ?_
    refine r_getR dX11_isSmall_9 flX11_7 sh_347 (by decide) rfl (pf_347_0 hP) ?_
    refine r_iload_n dX11_isSmall_12 rfl ?_
    refine r_ialv dX11_isSmall_13 sh_348 (vp_in_nI (n := j) (Nat.lt_of_lt_of_le (Nat.lt_of_not_le (fun z => c5 (nI_le z (by omega)))) hs) (by decide)) ((wQ_o _ _ _ _ _ _ (by decide) _).trans (congrArg (I 348) (nI_clamp (n := j) (by omega)))) ?_
    refine r_bipush (v := 97) dX11_isSmall_14 (by decide) ?_
    refine r_ic_lt 34 dX11_isSmall_16 (by decide) (fun c16 => ?_) (fun c16 => ?_)
    · refine r_iconst (v := 0) dX11_isSmall_34 (by decide) ?_
      exact r_iret dX11_isSmall_35 rfl rfl rfl rfl
    · refine r_aload_n dX11_isSmall_19 rfl ?_
      refine r_getR dX11_isSmall_20 flX11_7 sh_347 (by decide) rfl (pf_347_0 hP) ?_
      refine r_iload_n dX11_isSmall_23 rfl ?_
      refine r_ialv dX11_isSmall_24 sh_348 (vp_in_nI (n := j) (Nat.lt_of_lt_of_le (Nat.lt_of_not_le (fun z => c5 (nI_le z (by omega)))) hs) (by decide)) ((wQ_o _ _ _ _ _ _ (by decide) _).trans (congrArg (I 348) (nI_clamp (n := j) (by omega)))) ?_
      refine r_bipush (v := 122) dX11_isSmall_25 (by decide) ?_
      refine r_ic_gt 34 dX11_isSmall_27 (by decide) (fun c27 => ?_) (fun c27 => ?_)
      · refine r_iconst (v := 0) dX11_isSmall_34 (by decide) ?_
        exact r_iret dX11_isSmall_35 rfl rfl rfl rfl
      · exact absurd ⟨(Nat.lt_of_not_le (fun z => c5 (nI_le z (by omega)))), c16, c27⟩ h
set_option maxHeartbeats 1000000 in
theorem k_risDigit_t {E : xCl} {ex : Bool} {I : Nat → Nat → Int32} {J : Nat → Nat → Int64} {P : Nat → Nat → Nat} (hP : Pok P) {s : Nat} (hs : s ≤ 700) {i k w a : Int32} {j : Nat} (hj : j ≤ 700) (h : (j < s ∧ cDg (I 348 j))) (d : Nat) : xEx E ex (d + 1) yX11_isDigit [.ref 347, .int (nI j)] (SH, wQ I (nI s) i k w a, J, P) (some (.int 1)) (SH, wQ I (nI s) i k w a, J, P) := by
  refine x_enter cqX11_isDigit [some (.ref 347), some (.int (nI j))] rfl (by simp [lg_sl, Value.category]) ?_
  refine r_iload_n dX11_isDigit_0 rfl ?_
  refine r_aload_n dX11_isDigit_1 rfl ?_
  refine r_getIv dX11_isDigit_2 flX11_205 sh_347 (by decide) rfl (wQ_6 _ _ _ _ _ _) ?_
  refine r_ic_ge 34 dX11_isDigit_5 (by decide) (fun c5 => ?_) (fun c5 => ?_)
  · exact absurd c5 (nI_ge h.1 (by omega))
  · refine r_aload_n dX11_isDigit_8 rfl ?_
    refine r_getR dX11_isDigit_9 flX11_7 sh_347 (by decide) rfl (pf_347_0 hP) ?_
    refine r_iload_n dX11_isDigit_12 rfl ?_
    refine r_ialv dX11_isDigit_13 sh_348 (vp_in_nI (n := j) (Nat.lt_of_lt_of_le (Nat.lt_of_not_le (fun z => c5 (nI_le z (by omega)))) hs) (by decide)) ((wQ_o _ _ _ _ _ _ (by decide) _).trans (congrArg (I 348) (nI_clamp (n := j) (by omega)))) ?_
    refine r_bipush (v := 48) dX11_isDigit_14 (by decide) ?_
    refine r_ic_lt 34 dX11_isDigit_16 (by decide) (fun c16 => ?_) (fun c16 => ?_)
    · exact absurd c16 h.2.1
    · refine r_aload_n dX11_isDigit_19 rfl ?_
      refine r_getR dX11_isDigit_20 flX11_7 sh_347 (by decide) rfl (pf_347_0 hP) ?_
      refine r_iload_n dX11_isDigit_23 rfl ?_
      refine r_ialv dX11_isDigit_24 sh_348 (vp_in_nI (n := j) (Nat.lt_of_lt_of_le (Nat.lt_of_not_le (fun z => c5 (nI_le z (by omega)))) hs) (by decide)) ((wQ_o _ _ _ _ _ _ (by decide) _).trans (congrArg (I 348) (nI_clamp (n := j) (by omega)))) ?_
      refine r_bipush (v := 57) dX11_isDigit_25 (by decide) ?_
      refine r_ic_gt 34 dX11_isDigit_27 (by decide) (fun c27 => ?_) (fun c27 => ?_)
      · exact absurd c27 h.2.2
      · refine r_iconst (v := 1) dX11_isDigit_30 (by decide) ?_
        refine r_goto 35 dX11_isDigit_31 (by decide) ?_
        exact r_iret dX11_isDigit_35 rfl rfl rfl rfl
set_option maxHeartbeats 1000000 in
theorem k_risDigit_f {E : xCl} {ex : Bool} {I : Nat → Nat → Int32} {J : Nat → Nat → Int64} {P : Nat → Nat → Nat} (hP : Pok P) {s : Nat} (hs : s ≤ 700) {i k w a : Int32} {j : Nat} (hj : j ≤ 700) (h : ¬ (j < s ∧ cDg (I 348 j))) (d : Nat) : xEx E ex (d + 1) yX11_isDigit [.ref 347, .int (nI j)] (SH, wQ I (nI s) i k w a, J, P) (some (.int 0)) (SH, wQ I (nI s) i k w a, J, P) := by
  refine x_enter cqX11_isDigit [some (.ref 347), some (.int (nI j))] rfl (by simp [lg_sl, Value.category]) ?_
  refine r_iload_n dX11_isDigit_0 rfl ?_
  refine r_aload_n dX11_isDigit_1 rfl ?_
  refine r_getIv dX11_isDigit_2 flX11_205 sh_347 (by decide) rfl (wQ_6 _ _ _ _ _ _) ?_
  refine r_ic_ge 34 dX11_isDigit_5 (by decide) (fun c5 => ?_) (fun c5 => ?_)
  · refine r_iconst (v := 0) dX11_isDigit_34 (by decide) ?_
    exact r_iret dX11_isDigit_35 rfl rfl rfl rfl
  · refine r_aload_n dX11_isDigit_8 rfl ?_
    refine r_getR dX11_isDigit_9 flX11_7 sh_347 (by decide) rfl (pf_347_0 hP) ?_
    refine r_iload_n dX11_isDigit_12 rfl ?_
    refine r_ialv dX11_isDigit_13 sh_348 (vp_in_nI (n := j) (Nat.lt_of_lt_of_le (Nat.lt_of_not_le (fun z => c5 (nI_le z (by omega)))) hs) (by decide)) ((wQ_o _ _ _ _ _ _ (by decide) _).trans (congrArg (I 348) (nI_clamp (n := j) (by omega)))) ?_
    refine r_bipush (v := 48) dX11_isDigit_14 (by decide) ?_
    refine r_ic_lt 34 dX11_isDigit_16 (by decide) (fun c16 => ?_) (fun c16 => ?_)
    · refine r_iconst (v := 0) dX11_isDigit_34 (by decide) ?_
      exact r_iret dX11_isDigit_35 rfl rfl rfl rfl
    · refine r_aload_n dX11_isDigit_19 rfl ?_
      refine r_getR dX11_isDigit_20 flX11_7 sh_347 (by decide) rfl (pf_347_0 hP) ?_
      refine r_iload_n dX11_isDigit_23 rfl ?_
      refine r_ialv dX11_isDigit_24 sh_348 (vp_in_nI (n := j) (Nat.lt_of_lt_of_le (Nat.lt_of_not_le (fun z => c5 (nI_le z (by omega)))) hs) (by decide)) ((wQ_o _ _ _ _ _ _ (by decide) _).trans (congrArg (I 348) (nI_clamp (n := j) (by omega)))) ?_
      refine r_bipush (v := 57) dX11_isDigit_25 (by decide) ?_
      refine r_ic_gt 34 dX11_isDigit_27 (by decide) (fun c27 => ?_) (fun c27 => ?_)
      · refine r_iconst (v := 0) dX11_isDigit_34 (by decide) ?_
        exact r_iret dX11_isDigit_35 rfl rfl rfl rfl
      · exact absurd ⟨(Nat.lt_of_not_le (fun z => c5 (nI_le z (by omega)))), c16, c27⟩ h
def rPk (T : Nat → Int32) (a b : Nat) : Nat → Int32
  | 0 => 0
  | j + 1 => (rPk T a b j <<< (5 &&& 31)) ||| (if nI b ≤ nI (a + j) then 0 else T (a + j) - 96)
theorem np6 (a : Nat) : nI a + 6 = nI (a + 6) := nI_add a 6
set_option maxHeartbeats 1000000 in
theorem l_packed {E : xCl} {ex : Bool} {I : Nat → Nat → Int32} {J : Nat → Nat → Int64} {P : Nat → Nat → Nat} (hP : Pok P) {a b : Nat} (hab : a ≤ b) (hb : b ≤ 700) (s i k w at2 : Int32) (d : Nat) : ∀ j, j ≤ 6 → xR (xEx E ex (d + 0)) ex none yX11_packed cX11_packed (some .int) 5 [some (.ref 347), some (.int (nI a)), some (.int (nI b)), some (.int (rPk (I 348) a b j)), some (.int (nI (a + j)))] [] (SH, wQ I s i k w at2, J, P) (xEq (some (.int (rPk (I 348) a b 6))) (SH, wQ I s i k w at2, J, P)) := by
  refine r_for (fun j => xR (xEx E ex (d + 0)) ex none yX11_packed cX11_packed (some .int) 5 [some (.ref 347), some (.int (nI a)), some (.int (nI b)), some (.int (rPk (I 348) a b j)), some (.int (nI (a + j)))] [] (SH, wQ I s i k w at2, J, P) (xEq (some (.int (rPk (I 348) a b 6))) (SH, wQ I s i k w at2, J, P))) _ ?_ ?_
  · intro j hj ih
    refine r_iload dX11_packed_5 rfl ?_
    refine r_iload_n dX11_packed_7 rfl ?_
    refine r_bipush (v := 6) dX11_packed_8 (by decide) ?_
    refine r_iadd dX11_packed_10 ?_
    refine r_ic_ge 45 dX11_packed_11 (by decide) (fun c11 => ?_) (fun c11 => ?_)
    · exact absurd c11 (by rw [np6]; exact nI_ge (by omega) (by omega))
    · refine r_iload_n dX11_packed_14 rfl ?_
      refine r_iconst (v := 5) dX11_packed_15 (by decide) ?_
      refine r_ishl dX11_packed_16 ?_
      refine r_iload dX11_packed_17 rfl ?_
      refine r_iload_n dX11_packed_19 rfl ?_
      refine r_ic_ge 36 dX11_packed_20 (by decide) (fun c20 => ?_) (fun c20 => ?_)
      · refine r_iconst (v := 0) dX11_packed_36 (by decide) ?_
        refine r_ior dX11_packed_37 ?_
        refine r_istore_n3 dX11_packed_38 rfl ?_
        refine r_iinc4 (v := 1) dX11_packed_39 (by decide) rfl ?_
        refine r_goto 5 dX11_packed_42 (by decide) ?_
        rw [nI_1]; rw [rPk, if_pos c20] at ih; exact ih
      · refine r_aload_n dX11_packed_23 rfl ?_
        refine r_getR dX11_packed_24 flX11_7 sh_347 (by decide) rfl (pf_347_0 hP) ?_
        refine r_iload dX11_packed_27 rfl ?_
        refine r_ialv dX11_packed_29 sh_348 (vp_in_nI (n := a + j) (Nat.lt_of_lt_of_le (Nat.lt_of_not_le (fun z => c20 (nI_le z (by omega)))) hb) (by decide)) ((wQ_o _ _ _ _ _ _ (by decide) _).trans (congrArg (I 348) (nI_clamp (n := a + j) (by omega)))) ?_
        refine r_bipush (v := 96) dX11_packed_30 (by decide) ?_
        refine r_isub dX11_packed_32 ?_
        refine r_goto 37 dX11_packed_33 (by decide) ?_
        refine r_ior dX11_packed_37 ?_
        refine r_istore_n3 dX11_packed_38 rfl ?_
        refine r_iinc4 (v := 1) dX11_packed_39 (by decide) rfl ?_
        refine r_goto 5 dX11_packed_42 (by decide) ?_
        rw [nI_1]; rw [rPk, if_neg c20] at ih; exact ih
  · refine r_iload dX11_packed_5 rfl ?_
    refine r_iload_n dX11_packed_7 rfl ?_
    refine r_bipush (v := 6) dX11_packed_8 (by decide) ?_
    refine r_iadd dX11_packed_10 ?_
    refine r_ic_ge 45 dX11_packed_11 (by decide) (fun c11 => ?_) (fun c11 => ?_)
    · refine r_iload_n dX11_packed_45 rfl ?_
      exact r_iret dX11_packed_46 rfl rfl rfl rfl
    · exact absurd (by rw [np6]; exact nI_le (Nat.le_refl _) (by omega)) c11
set_option maxHeartbeats 1000000 in
theorem k_packed {E : xCl} {ex : Bool} {I : Nat → Nat → Int32} {J : Nat → Nat → Int64} {P : Nat → Nat → Nat} (hP : Pok P) {a b : Nat} (hab : a ≤ b) (hb : b ≤ 700) (s i k w at2 : Int32) (d : Nat) : xEx E ex (d + 1) yX11_packed [.ref 347, .int (nI a), .int (nI b)] (SH, wQ I s i k w at2, J, P) (some (.int (rPk (I 348) a b 6))) (SH, wQ I s i k w at2, J, P) := by
  refine x_enter cqX11_packed [some (.ref 347), some (.int (nI a)), some (.int (nI b)), none, none] rfl (by simp [lg_sl, Value.category]) ?_
  refine r_iconst (v := 0) dX11_packed_0 (by decide) ?_
  refine r_istore_n3 dX11_packed_1 rfl ?_
  refine r_iload_n dX11_packed_2 rfl ?_
  refine r_istore4 dX11_packed_3 rfl ?_
  exact l_packed hP hab hb s i k w at2 d 0 (Nat.zero_le _)
def rSi (T : Nat → Int32) (s i : Nat) : Nat × Int32 × Int32 := if T i = 60 then (if cBh T s i = 61 then (i + 2, 5, 1) else if cBh T s i = 62 then (i + 2, 5, 3) else (i + 1, 5, 0)) else if T i = 62 then (if cBh T s i = 61 then (i + 2, 5, 4) else (i + 1, 5, 5)) else if T i = 61 then (i + 1, 5, 2) else if T i = 59 ∨ T i = 40 ∨ T i = 41 ∨ T i = 43 ∨ T i = 45 ∨ T i = 42 ∨ T i = 47 ∨ T i = 37 then (i + 1, 4, T i) else (i + 1, 6, T i)
set_option maxHeartbeats 1000000 in
theorem k_signToken {E : xCl} {ex : Bool} {I : Nat → Nat → Int32} {J : Nat → Nat → Int64} {P : Nat → Nat → Nat} (hP : Pok P) {s : Nat} (hs : s ≤ 700) {i : Nat} (hi : i < s) (k w a : Int32) (d : Nat) : xEx E ex (d + 1) yX11_signToken [.ref 347] (SH, wQ I (nI s) (nI i) k w a, J, P) none (SH, wQ I (nI s) (nI (rSi (I 348) s i).1) (rSi (I 348) s i).2.1 (rSi (I 348) s i).2.2 a, J, P) := by
  refine x_enter cqX11_signToken [some (.ref 347), none, none, none] rfl (by simp [lg_sl, Value.category]) ?_
  by_cases x60 : I 348 i = 60
  · refine r_aload_n dX11_signToken_0 rfl ?_
    refine r_aload_n dX11_signToken_1 rfl ?_
    refine r_getR dX11_signToken_2 flX11_7 sh_347 (by decide) rfl (pf_347_0 hP) ?_
    refine r_aload_n dX11_signToken_5 rfl ?_
    refine r_getIv dX11_signToken_6 flX11_208 sh_347 (by decide) rfl (wQ_7 _ _ _ _ _ _) ?_
    refine r_ialv dX11_signToken_9 sh_348 (vp_in_nI (n := i) (by omega) (by decide)) ((wQ_o _ _ _ _ _ _ (by decide) _).trans (congrArg (I 348) (nI_clamp (n := i) (by omega)))) ?_
    refine r_putIv dX11_signToken_10 flX11_222 ⟨_, _, _, rfl, Or.inl rfl⟩ sh_347 (by decide) rfl rfl rfl (wQ_x9 _ _ _ _ _ _ _) ?_
    refine r_aload_n dX11_signToken_13 rfl ?_
    refine r_dup dX11_signToken_14 rfl ?_
    refine r_getIv dX11_signToken_15 flX11_208 sh_347 (by decide) rfl (wQ_7 _ _ _ _ _ _) ?_
    refine r_iconst (v := 1) dX11_signToken_18 (by decide) ?_
    refine r_iadd dX11_signToken_19 ?_
    refine r_putIv dX11_signToken_20 flX11_208 ⟨_, _, _, rfl, Or.inl rfl⟩ sh_347 (by decide) rfl rfl rfl (wQ_x7 _ _ _ _ _ _ _) ?_
    rw [nI_1, x60]
    refine r_aload_n dX11_signToken_23 rfl ?_
    refine r_getIv dX11_signToken_24 flX11_222 sh_347 (by decide) rfl (wQ_9 _ _ _ _ _ _) ?_
    refine r_bipush (v := 60) dX11_signToken_27 (by decide) ?_
    refine r_ic_eq 50 dX11_signToken_29 (by decide) (fun c29 => ?_) (fun c29 => ?_)
    · refine r_aload_n dX11_signToken_50 rfl ?_
      refine r_getIv dX11_signToken_51 flX11_208 sh_347 (by decide) rfl (wQ_7 _ _ _ _ _ _) ?_
      refine r_aload_n dX11_signToken_54 rfl ?_
      refine r_getIv dX11_signToken_55 flX11_205 sh_347 (by decide) rfl (wQ_6 _ _ _ _ _ _) ?_
      refine r_ic_ge 73 dX11_signToken_58 (by decide) (fun c58 => ?_) (fun c58 => ?_)
      · refine r_iconst (v := 0) dX11_signToken_73 (by decide) ?_
        have hB : 0 = cBh (I 348) s i := by rw [cBh, if_neg (fun z => absurd c58 (nI_ge z (by omega)))]
        rw [hB]
        refine r_istore_n1 dX11_signToken_74 rfl ?_
        refine r_aload_n dX11_signToken_75 rfl ?_
        refine r_getIv dX11_signToken_76 flX11_222 sh_347 (by decide) rfl (wQ_9 _ _ _ _ _ _) ?_
        refine r_bipush (v := 61) dX11_signToken_79 (by decide) ?_
        refine r_ic_eq 94 dX11_signToken_81 (by decide) (fun c81 => ?_) (fun c81 => ?_)
        · exact absurd c81 (by decide)
        · refine r_iload_n dX11_signToken_84 rfl ?_
          refine r_bipush (v := 61) dX11_signToken_85 (by decide) ?_
          refine r_ic_ne 94 dX11_signToken_87 (by decide) (fun c87 => ?_) (fun c87 => ?_)
          · refine r_iconst (v := 0) dX11_signToken_94 (by decide) ?_
            refine r_istore_n2 dX11_signToken_95 rfl ?_
            refine r_aload_n dX11_signToken_96 rfl ?_
            refine r_getIv dX11_signToken_97 flX11_222 sh_347 (by decide) rfl (wQ_9 _ _ _ _ _ _) ?_
            refine r_bipush (v := 60) dX11_signToken_100 (by decide) ?_
            refine r_ic_ne 115 dX11_signToken_102 (by decide) (fun c102 => ?_) (fun c102 => ?_)
            · exact absurd c102 (by decide)
            · refine r_iload_n dX11_signToken_105 rfl ?_
              refine r_bipush (v := 62) dX11_signToken_106 (by decide) ?_
              refine r_ic_ne 115 dX11_signToken_108 (by decide) (fun c108 => ?_) (fun c108 => ?_)
              · refine r_iconst (v := 0) dX11_signToken_115 (by decide) ?_
                refine r_istore_n3 dX11_signToken_116 rfl ?_
                refine r_iload_n dX11_signToken_117 rfl ?_
                refine r_if_ne 125 dX11_signToken_118 (by decide) (fun c118 => ?_) (fun c118 => ?_)
                · exact absurd c118 (by decide)
                · refine r_iload_n dX11_signToken_121 rfl ?_
                  refine r_if_eq 135 dX11_signToken_122 (by decide) (fun c122 => ?_) (fun c122 => ?_)
                  · refine r_aload_n dX11_signToken_135 rfl ?_
                    refine r_iconst (v := 5) dX11_signToken_136 (by decide) ?_
                    refine r_putIv dX11_signToken_137 flX11_211 ⟨_, _, _, rfl, Or.inl rfl⟩ sh_347 (by decide) rfl rfl rfl (wQ_x8 _ _ _ _ _ _ _) ?_
                    refine r_aload_n dX11_signToken_140 rfl ?_
                    refine r_aload_n dX11_signToken_141 rfl ?_
                    refine r_getIv dX11_signToken_142 flX11_222 sh_347 (by decide) rfl (wQ_9 _ _ _ _ _ _) ?_
                    refine r_bipush (v := 61) dX11_signToken_145 (by decide) ?_
                    refine r_ic_ne 154 dX11_signToken_147 (by decide) (fun c147 => ?_) (fun c147 => ?_)
                    · refine r_aload_n dX11_signToken_154 rfl ?_
                      refine r_getIv dX11_signToken_155 flX11_222 sh_347 (by decide) rfl (wQ_9 _ _ _ _ _ _) ?_
                      refine r_bipush (v := 60) dX11_signToken_158 (by decide) ?_
                      refine r_ic_ne 183 dX11_signToken_160 (by decide) (fun c160 => ?_) (fun c160 => ?_)
                      · exact absurd c160 (by decide)
                      · refine r_iload_n dX11_signToken_163 rfl ?_
                        refine r_if_eq 171 dX11_signToken_164 (by decide) (fun c164 => ?_) (fun c164 => ?_)
                        · refine r_iload_n dX11_signToken_171 rfl ?_
                          refine r_if_eq 179 dX11_signToken_172 (by decide) (fun c172 => ?_) (fun c172 => ?_)
                          · refine r_iconst (v := 0) dX11_signToken_179 (by decide) ?_
                            refine r_goto 192 dX11_signToken_180 (by decide) ?_
                            refine r_putIv dX11_signToken_192 flX11_222 ⟨_, _, _, rfl, Or.inl rfl⟩ sh_347 (by decide) rfl rfl rfl (wQ_x9 _ _ _ _ _ _ _) ?_
                            refine r_goto 290 dX11_signToken_195 (by decide) ?_
                            exact r_vret dX11_signToken_290 rfl rfl (by rw [rSi, if_pos x60, if_neg c87, if_neg c108])
                          · exact absurd c172 (by decide)
                        · exact absurd c164 (by decide)
                    · exact absurd c147 (by decide)
                  · exact absurd c122 (by decide)
              · refine r_iconst (v := 1) dX11_signToken_111 (by decide) ?_
                refine r_goto 116 dX11_signToken_112 (by decide) ?_
                refine r_istore_n3 dX11_signToken_116 rfl ?_
                refine r_iload_n dX11_signToken_117 rfl ?_
                refine r_if_ne 125 dX11_signToken_118 (by decide) (fun c118 => ?_) (fun c118 => ?_)
                · exact absurd c118 (by decide)
                · refine r_iload_n dX11_signToken_121 rfl ?_
                  refine r_if_eq 135 dX11_signToken_122 (by decide) (fun c122 => ?_) (fun c122 => ?_)
                  · exact absurd c122 (by decide)
                  · refine r_aload_n dX11_signToken_125 rfl ?_
                    refine r_dup dX11_signToken_126 rfl ?_
                    refine r_getIv dX11_signToken_127 flX11_208 sh_347 (by decide) rfl (wQ_7 _ _ _ _ _ _) ?_
                    refine r_iconst (v := 1) dX11_signToken_130 (by decide) ?_
                    refine r_iadd dX11_signToken_131 ?_
                    refine r_putIv dX11_signToken_132 flX11_208 ⟨_, _, _, rfl, Or.inl rfl⟩ sh_347 (by decide) rfl rfl rfl (wQ_x7 _ _ _ _ _ _ _) ?_
                    refine r_aload_n dX11_signToken_135 rfl ?_
                    refine r_iconst (v := 5) dX11_signToken_136 (by decide) ?_
                    refine r_putIv dX11_signToken_137 flX11_211 ⟨_, _, _, rfl, Or.inl rfl⟩ sh_347 (by decide) rfl rfl rfl (wQ_x8 _ _ _ _ _ _ _) ?_
                    refine r_aload_n dX11_signToken_140 rfl ?_
                    refine r_aload_n dX11_signToken_141 rfl ?_
                    refine r_getIv dX11_signToken_142 flX11_222 sh_347 (by decide) rfl (wQ_9 _ _ _ _ _ _) ?_
                    refine r_bipush (v := 61) dX11_signToken_145 (by decide) ?_
                    refine r_ic_ne 154 dX11_signToken_147 (by decide) (fun c147 => ?_) (fun c147 => ?_)
                    · refine r_aload_n dX11_signToken_154 rfl ?_
                      refine r_getIv dX11_signToken_155 flX11_222 sh_347 (by decide) rfl (wQ_9 _ _ _ _ _ _) ?_
                      refine r_bipush (v := 60) dX11_signToken_158 (by decide) ?_
                      refine r_ic_ne 183 dX11_signToken_160 (by decide) (fun c160 => ?_) (fun c160 => ?_)
                      · exact absurd c160 (by decide)
                      · refine r_iload_n dX11_signToken_163 rfl ?_
                        refine r_if_eq 171 dX11_signToken_164 (by decide) (fun c164 => ?_) (fun c164 => ?_)
                        · refine r_iload_n dX11_signToken_171 rfl ?_
                          refine r_if_eq 179 dX11_signToken_172 (by decide) (fun c172 => ?_) (fun c172 => ?_)
                          · exact absurd c172 (by decide)
                          · refine r_iconst (v := 3) dX11_signToken_175 (by decide) ?_
                            refine r_goto 192 dX11_signToken_176 (by decide) ?_
                            refine r_putIv dX11_signToken_192 flX11_222 ⟨_, _, _, rfl, Or.inl rfl⟩ sh_347 (by decide) rfl rfl rfl (wQ_x9 _ _ _ _ _ _ _) ?_
                            refine r_goto 290 dX11_signToken_195 (by decide) ?_
                            exact r_vret dX11_signToken_290 rfl rfl (by rw [rSi, if_pos x60, if_neg c87, if_pos c108, nI_1])
                        · exact absurd c164 (by decide)
                    · exact absurd c147 (by decide)
          · refine r_iconst (v := 1) dX11_signToken_90 (by decide) ?_
            refine r_goto 95 dX11_signToken_91 (by decide) ?_
            refine r_istore_n2 dX11_signToken_95 rfl ?_
            refine r_aload_n dX11_signToken_96 rfl ?_
            refine r_getIv dX11_signToken_97 flX11_222 sh_347 (by decide) rfl (wQ_9 _ _ _ _ _ _) ?_
            refine r_bipush (v := 60) dX11_signToken_100 (by decide) ?_
            refine r_ic_ne 115 dX11_signToken_102 (by decide) (fun c102 => ?_) (fun c102 => ?_)
            · exact absurd c102 (by decide)
            · refine r_iload_n dX11_signToken_105 rfl ?_
              refine r_bipush (v := 62) dX11_signToken_106 (by decide) ?_
              refine r_ic_ne 115 dX11_signToken_108 (by decide) (fun c108 => ?_) (fun c108 => ?_)
              · refine r_iconst (v := 0) dX11_signToken_115 (by decide) ?_
                refine r_istore_n3 dX11_signToken_116 rfl ?_
                refine r_iload_n dX11_signToken_117 rfl ?_
                refine r_if_ne 125 dX11_signToken_118 (by decide) (fun c118 => ?_) (fun c118 => ?_)
                · refine r_aload_n dX11_signToken_125 rfl ?_
                  refine r_dup dX11_signToken_126 rfl ?_
                  refine r_getIv dX11_signToken_127 flX11_208 sh_347 (by decide) rfl (wQ_7 _ _ _ _ _ _) ?_
                  refine r_iconst (v := 1) dX11_signToken_130 (by decide) ?_
                  refine r_iadd dX11_signToken_131 ?_
                  refine r_putIv dX11_signToken_132 flX11_208 ⟨_, _, _, rfl, Or.inl rfl⟩ sh_347 (by decide) rfl rfl rfl (wQ_x7 _ _ _ _ _ _ _) ?_
                  refine r_aload_n dX11_signToken_135 rfl ?_
                  refine r_iconst (v := 5) dX11_signToken_136 (by decide) ?_
                  refine r_putIv dX11_signToken_137 flX11_211 ⟨_, _, _, rfl, Or.inl rfl⟩ sh_347 (by decide) rfl rfl rfl (wQ_x8 _ _ _ _ _ _ _) ?_
                  refine r_aload_n dX11_signToken_140 rfl ?_
                  refine r_aload_n dX11_signToken_141 rfl ?_
                  refine r_getIv dX11_signToken_142 flX11_222 sh_347 (by decide) rfl (wQ_9 _ _ _ _ _ _) ?_
                  refine r_bipush (v := 61) dX11_signToken_145 (by decide) ?_
                  refine r_ic_ne 154 dX11_signToken_147 (by decide) (fun c147 => ?_) (fun c147 => ?_)
                  · refine r_aload_n dX11_signToken_154 rfl ?_
                    refine r_getIv dX11_signToken_155 flX11_222 sh_347 (by decide) rfl (wQ_9 _ _ _ _ _ _) ?_
                    refine r_bipush (v := 60) dX11_signToken_158 (by decide) ?_
                    refine r_ic_ne 183 dX11_signToken_160 (by decide) (fun c160 => ?_) (fun c160 => ?_)
                    · exact absurd c160 (by decide)
                    · refine r_iload_n dX11_signToken_163 rfl ?_
                      refine r_if_eq 171 dX11_signToken_164 (by decide) (fun c164 => ?_) (fun c164 => ?_)
                      · exact absurd c164 (by decide)
                      · refine r_iconst (v := 1) dX11_signToken_167 (by decide) ?_
                        refine r_goto 192 dX11_signToken_168 (by decide) ?_
                        refine r_putIv dX11_signToken_192 flX11_222 ⟨_, _, _, rfl, Or.inl rfl⟩ sh_347 (by decide) rfl rfl rfl (wQ_x9 _ _ _ _ _ _ _) ?_
                        refine r_goto 290 dX11_signToken_195 (by decide) ?_
                        exact r_vret dX11_signToken_290 rfl rfl (by rw [rSi, if_pos x60, if_pos c87, nI_1])
                  · exact absurd c147 (by decide)
                · exact absurd c118 (by decide)
              · exact absurd (c87.symm.trans c108) (by decide)
      · refine r_aload_n dX11_signToken_61 rfl ?_
        refine r_getR dX11_signToken_62 flX11_7 sh_347 (by decide) rfl (pf_347_0 hP) ?_
        refine r_aload_n dX11_signToken_65 rfl ?_
        refine r_getIv dX11_signToken_66 flX11_208 sh_347 (by decide) rfl (wQ_7 _ _ _ _ _ _) ?_
        refine r_ialv dX11_signToken_69 sh_348 (vp_in_nI (n := i + 1) (Nat.lt_of_lt_of_le (Nat.lt_of_not_le (fun z => c58 (nI_le z (by omega)))) hs) (by decide)) ((wQ_o _ _ _ _ _ _ (by decide) _).trans (congrArg (I 348) (nI_clamp (n := i + 1) (by omega)))) ?_
        refine r_goto 74 dX11_signToken_70 (by decide) ?_
        have hB : I 348 (i + 1) = cBh (I 348) s i := by rw [cBh, if_pos (Nat.lt_of_not_le (fun z => c58 (nI_le z (by omega))))]
        rw [hB]
        refine r_istore_n1 dX11_signToken_74 rfl ?_
        refine r_aload_n dX11_signToken_75 rfl ?_
        refine r_getIv dX11_signToken_76 flX11_222 sh_347 (by decide) rfl (wQ_9 _ _ _ _ _ _) ?_
        refine r_bipush (v := 61) dX11_signToken_79 (by decide) ?_
        refine r_ic_eq 94 dX11_signToken_81 (by decide) (fun c81 => ?_) (fun c81 => ?_)
        · exact absurd c81 (by decide)
        · refine r_iload_n dX11_signToken_84 rfl ?_
          refine r_bipush (v := 61) dX11_signToken_85 (by decide) ?_
          refine r_ic_ne 94 dX11_signToken_87 (by decide) (fun c87 => ?_) (fun c87 => ?_)
          · refine r_iconst (v := 0) dX11_signToken_94 (by decide) ?_
            refine r_istore_n2 dX11_signToken_95 rfl ?_
            refine r_aload_n dX11_signToken_96 rfl ?_
            refine r_getIv dX11_signToken_97 flX11_222 sh_347 (by decide) rfl (wQ_9 _ _ _ _ _ _) ?_
            refine r_bipush (v := 60) dX11_signToken_100 (by decide) ?_
            refine r_ic_ne 115 dX11_signToken_102 (by decide) (fun c102 => ?_) (fun c102 => ?_)
            · exact absurd c102 (by decide)
            · refine r_iload_n dX11_signToken_105 rfl ?_
              refine r_bipush (v := 62) dX11_signToken_106 (by decide) ?_
              refine r_ic_ne 115 dX11_signToken_108 (by decide) (fun c108 => ?_) (fun c108 => ?_)
              · refine r_iconst (v := 0) dX11_signToken_115 (by decide) ?_
                refine r_istore_n3 dX11_signToken_116 rfl ?_
                refine r_iload_n dX11_signToken_117 rfl ?_
                refine r_if_ne 125 dX11_signToken_118 (by decide) (fun c118 => ?_) (fun c118 => ?_)
                · exact absurd c118 (by decide)
                · refine r_iload_n dX11_signToken_121 rfl ?_
                  refine r_if_eq 135 dX11_signToken_122 (by decide) (fun c122 => ?_) (fun c122 => ?_)
                  · refine r_aload_n dX11_signToken_135 rfl ?_
                    refine r_iconst (v := 5) dX11_signToken_136 (by decide) ?_
                    refine r_putIv dX11_signToken_137 flX11_211 ⟨_, _, _, rfl, Or.inl rfl⟩ sh_347 (by decide) rfl rfl rfl (wQ_x8 _ _ _ _ _ _ _) ?_
                    refine r_aload_n dX11_signToken_140 rfl ?_
                    refine r_aload_n dX11_signToken_141 rfl ?_
                    refine r_getIv dX11_signToken_142 flX11_222 sh_347 (by decide) rfl (wQ_9 _ _ _ _ _ _) ?_
                    refine r_bipush (v := 61) dX11_signToken_145 (by decide) ?_
                    refine r_ic_ne 154 dX11_signToken_147 (by decide) (fun c147 => ?_) (fun c147 => ?_)
                    · refine r_aload_n dX11_signToken_154 rfl ?_
                      refine r_getIv dX11_signToken_155 flX11_222 sh_347 (by decide) rfl (wQ_9 _ _ _ _ _ _) ?_
                      refine r_bipush (v := 60) dX11_signToken_158 (by decide) ?_
                      refine r_ic_ne 183 dX11_signToken_160 (by decide) (fun c160 => ?_) (fun c160 => ?_)
                      · exact absurd c160 (by decide)
                      · refine r_iload_n dX11_signToken_163 rfl ?_
                        refine r_if_eq 171 dX11_signToken_164 (by decide) (fun c164 => ?_) (fun c164 => ?_)
                        · refine r_iload_n dX11_signToken_171 rfl ?_
                          refine r_if_eq 179 dX11_signToken_172 (by decide) (fun c172 => ?_) (fun c172 => ?_)
                          · refine r_iconst (v := 0) dX11_signToken_179 (by decide) ?_
                            refine r_goto 192 dX11_signToken_180 (by decide) ?_
                            refine r_putIv dX11_signToken_192 flX11_222 ⟨_, _, _, rfl, Or.inl rfl⟩ sh_347 (by decide) rfl rfl rfl (wQ_x9 _ _ _ _ _ _ _) ?_
                            refine r_goto 290 dX11_signToken_195 (by decide) ?_
                            exact r_vret dX11_signToken_290 rfl rfl (by rw [rSi, if_pos x60, if_neg c87, if_neg c108])
                          · exact absurd c172 (by decide)
                        · exact absurd c164 (by decide)
                    · exact absurd c147 (by decide)
                  · exact absurd c122 (by decide)
              · refine r_iconst (v := 1) dX11_signToken_111 (by decide) ?_
                refine r_goto 116 dX11_signToken_112 (by decide) ?_
                refine r_istore_n3 dX11_signToken_116 rfl ?_
                refine r_iload_n dX11_signToken_117 rfl ?_
                refine r_if_ne 125 dX11_signToken_118 (by decide) (fun c118 => ?_) (fun c118 => ?_)
                · exact absurd c118 (by decide)
                · refine r_iload_n dX11_signToken_121 rfl ?_
                  refine r_if_eq 135 dX11_signToken_122 (by decide) (fun c122 => ?_) (fun c122 => ?_)
                  · exact absurd c122 (by decide)
                  · refine r_aload_n dX11_signToken_125 rfl ?_
                    refine r_dup dX11_signToken_126 rfl ?_
                    refine r_getIv dX11_signToken_127 flX11_208 sh_347 (by decide) rfl (wQ_7 _ _ _ _ _ _) ?_
                    refine r_iconst (v := 1) dX11_signToken_130 (by decide) ?_
                    refine r_iadd dX11_signToken_131 ?_
                    refine r_putIv dX11_signToken_132 flX11_208 ⟨_, _, _, rfl, Or.inl rfl⟩ sh_347 (by decide) rfl rfl rfl (wQ_x7 _ _ _ _ _ _ _) ?_
                    refine r_aload_n dX11_signToken_135 rfl ?_
                    refine r_iconst (v := 5) dX11_signToken_136 (by decide) ?_
                    refine r_putIv dX11_signToken_137 flX11_211 ⟨_, _, _, rfl, Or.inl rfl⟩ sh_347 (by decide) rfl rfl rfl (wQ_x8 _ _ _ _ _ _ _) ?_
                    refine r_aload_n dX11_signToken_140 rfl ?_
                    refine r_aload_n dX11_signToken_141 rfl ?_
                    refine r_getIv dX11_signToken_142 flX11_222 sh_347 (by decide) rfl (wQ_9 _ _ _ _ _ _) ?_
                    refine r_bipush (v := 61) dX11_signToken_145 (by decide) ?_
                    refine r_ic_ne 154 dX11_signToken_147 (by decide) (fun c147 => ?_) (fun c147 => ?_)
                    · refine r_aload_n dX11_signToken_154 rfl ?_
                      refine r_getIv dX11_signToken_155 flX11_222 sh_347 (by decide) rfl (wQ_9 _ _ _ _ _ _) ?_
                      refine r_bipush (v := 60) dX11_signToken_158 (by decide) ?_
                      refine r_ic_ne 183 dX11_signToken_160 (by decide) (fun c160 => ?_) (fun c160 => ?_)
                      · exact absurd c160 (by decide)
                      · refine r_iload_n dX11_signToken_163 rfl ?_
                        refine r_if_eq 171 dX11_signToken_164 (by decide) (fun c164 => ?_) (fun c164 => ?_)
                        · refine r_iload_n dX11_signToken_171 rfl ?_
                          refine r_if_eq 179 dX11_signToken_172 (by decide) (fun c172 => ?_) (fun c172 => ?_)
                          · exact absurd c172 (by decide)
                          · refine r_iconst (v := 3) dX11_signToken_175 (by decide) ?_
                            refine r_goto 192 dX11_signToken_176 (by decide) ?_
                            refine r_putIv dX11_signToken_192 flX11_222 ⟨_, _, _, rfl, Or.inl rfl⟩ sh_347 (by decide) rfl rfl rfl (wQ_x9 _ _ _ _ _ _ _) ?_
                            refine r_goto 290 dX11_signToken_195 (by decide) ?_
                            exact r_vret dX11_signToken_290 rfl rfl (by rw [rSi, if_pos x60, if_neg c87, if_pos c108, nI_1])
                        · exact absurd c164 (by decide)
                    · exact absurd c147 (by decide)
          · refine r_iconst (v := 1) dX11_signToken_90 (by decide) ?_
            refine r_goto 95 dX11_signToken_91 (by decide) ?_
            refine r_istore_n2 dX11_signToken_95 rfl ?_
            refine r_aload_n dX11_signToken_96 rfl ?_
            refine r_getIv dX11_signToken_97 flX11_222 sh_347 (by decide) rfl (wQ_9 _ _ _ _ _ _) ?_
            refine r_bipush (v := 60) dX11_signToken_100 (by decide) ?_
            refine r_ic_ne 115 dX11_signToken_102 (by decide) (fun c102 => ?_) (fun c102 => ?_)
            · exact absurd c102 (by decide)
            · refine r_iload_n dX11_signToken_105 rfl ?_
              refine r_bipush (v := 62) dX11_signToken_106 (by decide) ?_
              refine r_ic_ne 115 dX11_signToken_108 (by decide) (fun c108 => ?_) (fun c108 => ?_)
              · refine r_iconst (v := 0) dX11_signToken_115 (by decide) ?_
                refine r_istore_n3 dX11_signToken_116 rfl ?_
                refine r_iload_n dX11_signToken_117 rfl ?_
                refine r_if_ne 125 dX11_signToken_118 (by decide) (fun c118 => ?_) (fun c118 => ?_)
                · refine r_aload_n dX11_signToken_125 rfl ?_
                  refine r_dup dX11_signToken_126 rfl ?_
                  refine r_getIv dX11_signToken_127 flX11_208 sh_347 (by decide) rfl (wQ_7 _ _ _ _ _ _) ?_
                  refine r_iconst (v := 1) dX11_signToken_130 (by decide) ?_
                  refine r_iadd dX11_signToken_131 ?_
                  refine r_putIv dX11_signToken_132 flX11_208 ⟨_, _, _, rfl, Or.inl rfl⟩ sh_347 (by decide) rfl rfl rfl (wQ_x7 _ _ _ _ _ _ _) ?_
                  refine r_aload_n dX11_signToken_135 rfl ?_
                  refine r_iconst (v := 5) dX11_signToken_136 (by decide) ?_
                  refine r_putIv dX11_signToken_137 flX11_211 ⟨_, _, _, rfl, Or.inl rfl⟩ sh_347 (by decide) rfl rfl rfl (wQ_x8 _ _ _ _ _ _ _) ?_
                  refine r_aload_n dX11_signToken_140 rfl ?_
                  refine r_aload_n dX11_signToken_141 rfl ?_
                  refine r_getIv dX11_signToken_142 flX11_222 sh_347 (by decide) rfl (wQ_9 _ _ _ _ _ _) ?_
                  refine r_bipush (v := 61) dX11_signToken_145 (by decide) ?_
                  refine r_ic_ne 154 dX11_signToken_147 (by decide) (fun c147 => ?_) (fun c147 => ?_)
                  · refine r_aload_n dX11_signToken_154 rfl ?_
                    refine r_getIv dX11_signToken_155 flX11_222 sh_347 (by decide) rfl (wQ_9 _ _ _ _ _ _) ?_
                    refine r_bipush (v := 60) dX11_signToken_158 (by decide) ?_
                    refine r_ic_ne 183 dX11_signToken_160 (by decide) (fun c160 => ?_) (fun c160 => ?_)
                    · exact absurd c160 (by decide)
                    · refine r_iload_n dX11_signToken_163 rfl ?_
                      refine r_if_eq 171 dX11_signToken_164 (by decide) (fun c164 => ?_) (fun c164 => ?_)
                      · exact absurd c164 (by decide)
                      · refine r_iconst (v := 1) dX11_signToken_167 (by decide) ?_
                        refine r_goto 192 dX11_signToken_168 (by decide) ?_
                        refine r_putIv dX11_signToken_192 flX11_222 ⟨_, _, _, rfl, Or.inl rfl⟩ sh_347 (by decide) rfl rfl rfl (wQ_x9 _ _ _ _ _ _ _) ?_
                        refine r_goto 290 dX11_signToken_195 (by decide) ?_
                        exact r_vret dX11_signToken_290 rfl rfl (by rw [rSi, if_pos x60, if_pos c87, nI_1])
                  · exact absurd c147 (by decide)
                · exact absurd c118 (by decide)
              · exact absurd (c87.symm.trans c108) (by decide)
    · exact absurd c29 (by decide)
  by_cases x62 : I 348 i = 62
  · refine r_aload_n dX11_signToken_0 rfl ?_
    refine r_aload_n dX11_signToken_1 rfl ?_
    refine r_getR dX11_signToken_2 flX11_7 sh_347 (by decide) rfl (pf_347_0 hP) ?_
    refine r_aload_n dX11_signToken_5 rfl ?_
    refine r_getIv dX11_signToken_6 flX11_208 sh_347 (by decide) rfl (wQ_7 _ _ _ _ _ _) ?_
    refine r_ialv dX11_signToken_9 sh_348 (vp_in_nI (n := i) (by omega) (by decide)) ((wQ_o _ _ _ _ _ _ (by decide) _).trans (congrArg (I 348) (nI_clamp (n := i) (by omega)))) ?_
    refine r_putIv dX11_signToken_10 flX11_222 ⟨_, _, _, rfl, Or.inl rfl⟩ sh_347 (by decide) rfl rfl rfl (wQ_x9 _ _ _ _ _ _ _) ?_
    refine r_aload_n dX11_signToken_13 rfl ?_
    refine r_dup dX11_signToken_14 rfl ?_
    refine r_getIv dX11_signToken_15 flX11_208 sh_347 (by decide) rfl (wQ_7 _ _ _ _ _ _) ?_
    refine r_iconst (v := 1) dX11_signToken_18 (by decide) ?_
    refine r_iadd dX11_signToken_19 ?_
    refine r_putIv dX11_signToken_20 flX11_208 ⟨_, _, _, rfl, Or.inl rfl⟩ sh_347 (by decide) rfl rfl rfl (wQ_x7 _ _ _ _ _ _ _) ?_
    rw [nI_1, x62]
    refine r_aload_n dX11_signToken_23 rfl ?_
    refine r_getIv dX11_signToken_24 flX11_222 sh_347 (by decide) rfl (wQ_9 _ _ _ _ _ _) ?_
    refine r_bipush (v := 60) dX11_signToken_27 (by decide) ?_
    refine r_ic_eq 50 dX11_signToken_29 (by decide) (fun c29 => ?_) (fun c29 => ?_)
    · exact absurd c29 (by decide)
    · refine r_aload_n dX11_signToken_32 rfl ?_
      refine r_getIv dX11_signToken_33 flX11_222 sh_347 (by decide) rfl (wQ_9 _ _ _ _ _ _) ?_
      refine r_bipush (v := 62) dX11_signToken_36 (by decide) ?_
      refine r_ic_eq 50 dX11_signToken_38 (by decide) (fun c38 => ?_) (fun c38 => ?_)
      · refine r_aload_n dX11_signToken_50 rfl ?_
        refine r_getIv dX11_signToken_51 flX11_208 sh_347 (by decide) rfl (wQ_7 _ _ _ _ _ _) ?_
        refine r_aload_n dX11_signToken_54 rfl ?_
        refine r_getIv dX11_signToken_55 flX11_205 sh_347 (by decide) rfl (wQ_6 _ _ _ _ _ _) ?_
        refine r_ic_ge 73 dX11_signToken_58 (by decide) (fun c58 => ?_) (fun c58 => ?_)
        · refine r_iconst (v := 0) dX11_signToken_73 (by decide) ?_
          have hB : 0 = cBh (I 348) s i := by rw [cBh, if_neg (fun z => absurd c58 (nI_ge z (by omega)))]
          rw [hB]
          refine r_istore_n1 dX11_signToken_74 rfl ?_
          refine r_aload_n dX11_signToken_75 rfl ?_
          refine r_getIv dX11_signToken_76 flX11_222 sh_347 (by decide) rfl (wQ_9 _ _ _ _ _ _) ?_
          refine r_bipush (v := 61) dX11_signToken_79 (by decide) ?_
          refine r_ic_eq 94 dX11_signToken_81 (by decide) (fun c81 => ?_) (fun c81 => ?_)
          · exact absurd c81 (by decide)
          · refine r_iload_n dX11_signToken_84 rfl ?_
            refine r_bipush (v := 61) dX11_signToken_85 (by decide) ?_
            refine r_ic_ne 94 dX11_signToken_87 (by decide) (fun c87 => ?_) (fun c87 => ?_)
            · refine r_iconst (v := 0) dX11_signToken_94 (by decide) ?_
              refine r_istore_n2 dX11_signToken_95 rfl ?_
              refine r_aload_n dX11_signToken_96 rfl ?_
              refine r_getIv dX11_signToken_97 flX11_222 sh_347 (by decide) rfl (wQ_9 _ _ _ _ _ _) ?_
              refine r_bipush (v := 60) dX11_signToken_100 (by decide) ?_
              refine r_ic_ne 115 dX11_signToken_102 (by decide) (fun c102 => ?_) (fun c102 => ?_)
              · refine r_iconst (v := 0) dX11_signToken_115 (by decide) ?_
                refine r_istore_n3 dX11_signToken_116 rfl ?_
                refine r_iload_n dX11_signToken_117 rfl ?_
                refine r_if_ne 125 dX11_signToken_118 (by decide) (fun c118 => ?_) (fun c118 => ?_)
                · exact absurd c118 (by decide)
                · refine r_iload_n dX11_signToken_121 rfl ?_
                  refine r_if_eq 135 dX11_signToken_122 (by decide) (fun c122 => ?_) (fun c122 => ?_)
                  · refine r_aload_n dX11_signToken_135 rfl ?_
                    refine r_iconst (v := 5) dX11_signToken_136 (by decide) ?_
                    refine r_putIv dX11_signToken_137 flX11_211 ⟨_, _, _, rfl, Or.inl rfl⟩ sh_347 (by decide) rfl rfl rfl (wQ_x8 _ _ _ _ _ _ _) ?_
                    refine r_aload_n dX11_signToken_140 rfl ?_
                    refine r_aload_n dX11_signToken_141 rfl ?_
                    refine r_getIv dX11_signToken_142 flX11_222 sh_347 (by decide) rfl (wQ_9 _ _ _ _ _ _) ?_
                    refine r_bipush (v := 61) dX11_signToken_145 (by decide) ?_
                    refine r_ic_ne 154 dX11_signToken_147 (by decide) (fun c147 => ?_) (fun c147 => ?_)
                    · refine r_aload_n dX11_signToken_154 rfl ?_
                      refine r_getIv dX11_signToken_155 flX11_222 sh_347 (by decide) rfl (wQ_9 _ _ _ _ _ _) ?_
                      refine r_bipush (v := 60) dX11_signToken_158 (by decide) ?_
                      refine r_ic_ne 183 dX11_signToken_160 (by decide) (fun c160 => ?_) (fun c160 => ?_)
                      · refine r_iload_n dX11_signToken_183 rfl ?_
                        refine r_if_eq 191 dX11_signToken_184 (by decide) (fun c184 => ?_) (fun c184 => ?_)
                        · refine r_iconst (v := 5) dX11_signToken_191 (by decide) ?_
                          refine r_putIv dX11_signToken_192 flX11_222 ⟨_, _, _, rfl, Or.inl rfl⟩ sh_347 (by decide) rfl rfl rfl (wQ_x9 _ _ _ _ _ _ _) ?_
                          refine r_goto 290 dX11_signToken_195 (by decide) ?_
                          exact r_vret dX11_signToken_290 rfl rfl (by rw [rSi, if_neg x60, if_pos x62, if_neg c87])
                        · exact absurd c184 (by decide)
                      · exact absurd c160 (by decide)
                    · exact absurd c147 (by decide)
                  · exact absurd c122 (by decide)
              · exact absurd c102 (by decide)
            · refine r_iconst (v := 1) dX11_signToken_90 (by decide) ?_
              refine r_goto 95 dX11_signToken_91 (by decide) ?_
              refine r_istore_n2 dX11_signToken_95 rfl ?_
              refine r_aload_n dX11_signToken_96 rfl ?_
              refine r_getIv dX11_signToken_97 flX11_222 sh_347 (by decide) rfl (wQ_9 _ _ _ _ _ _) ?_
              refine r_bipush (v := 60) dX11_signToken_100 (by decide) ?_
              refine r_ic_ne 115 dX11_signToken_102 (by decide) (fun c102 => ?_) (fun c102 => ?_)
              · refine r_iconst (v := 0) dX11_signToken_115 (by decide) ?_
                refine r_istore_n3 dX11_signToken_116 rfl ?_
                refine r_iload_n dX11_signToken_117 rfl ?_
                refine r_if_ne 125 dX11_signToken_118 (by decide) (fun c118 => ?_) (fun c118 => ?_)
                · refine r_aload_n dX11_signToken_125 rfl ?_
                  refine r_dup dX11_signToken_126 rfl ?_
                  refine r_getIv dX11_signToken_127 flX11_208 sh_347 (by decide) rfl (wQ_7 _ _ _ _ _ _) ?_
                  refine r_iconst (v := 1) dX11_signToken_130 (by decide) ?_
                  refine r_iadd dX11_signToken_131 ?_
                  refine r_putIv dX11_signToken_132 flX11_208 ⟨_, _, _, rfl, Or.inl rfl⟩ sh_347 (by decide) rfl rfl rfl (wQ_x7 _ _ _ _ _ _ _) ?_
                  refine r_aload_n dX11_signToken_135 rfl ?_
                  refine r_iconst (v := 5) dX11_signToken_136 (by decide) ?_
                  refine r_putIv dX11_signToken_137 flX11_211 ⟨_, _, _, rfl, Or.inl rfl⟩ sh_347 (by decide) rfl rfl rfl (wQ_x8 _ _ _ _ _ _ _) ?_
                  refine r_aload_n dX11_signToken_140 rfl ?_
                  refine r_aload_n dX11_signToken_141 rfl ?_
                  refine r_getIv dX11_signToken_142 flX11_222 sh_347 (by decide) rfl (wQ_9 _ _ _ _ _ _) ?_
                  refine r_bipush (v := 61) dX11_signToken_145 (by decide) ?_
                  refine r_ic_ne 154 dX11_signToken_147 (by decide) (fun c147 => ?_) (fun c147 => ?_)
                  · refine r_aload_n dX11_signToken_154 rfl ?_
                    refine r_getIv dX11_signToken_155 flX11_222 sh_347 (by decide) rfl (wQ_9 _ _ _ _ _ _) ?_
                    refine r_bipush (v := 60) dX11_signToken_158 (by decide) ?_
                    refine r_ic_ne 183 dX11_signToken_160 (by decide) (fun c160 => ?_) (fun c160 => ?_)
                    · refine r_iload_n dX11_signToken_183 rfl ?_
                      refine r_if_eq 191 dX11_signToken_184 (by decide) (fun c184 => ?_) (fun c184 => ?_)
                      · exact absurd c184 (by decide)
                      · refine r_iconst (v := 4) dX11_signToken_187 (by decide) ?_
                        refine r_goto 192 dX11_signToken_188 (by decide) ?_
                        refine r_putIv dX11_signToken_192 flX11_222 ⟨_, _, _, rfl, Or.inl rfl⟩ sh_347 (by decide) rfl rfl rfl (wQ_x9 _ _ _ _ _ _ _) ?_
                        refine r_goto 290 dX11_signToken_195 (by decide) ?_
                        exact r_vret dX11_signToken_290 rfl rfl (by rw [rSi, if_neg x60, if_pos x62, if_pos c87, nI_1])
                    · exact absurd c160 (by decide)
                  · exact absurd c147 (by decide)
                · exact absurd c118 (by decide)
              · exact absurd c102 (by decide)
        · refine r_aload_n dX11_signToken_61 rfl ?_
          refine r_getR dX11_signToken_62 flX11_7 sh_347 (by decide) rfl (pf_347_0 hP) ?_
          refine r_aload_n dX11_signToken_65 rfl ?_
          refine r_getIv dX11_signToken_66 flX11_208 sh_347 (by decide) rfl (wQ_7 _ _ _ _ _ _) ?_
          refine r_ialv dX11_signToken_69 sh_348 (vp_in_nI (n := i + 1) (Nat.lt_of_lt_of_le (Nat.lt_of_not_le (fun z => c58 (nI_le z (by omega)))) hs) (by decide)) ((wQ_o _ _ _ _ _ _ (by decide) _).trans (congrArg (I 348) (nI_clamp (n := i + 1) (by omega)))) ?_
          refine r_goto 74 dX11_signToken_70 (by decide) ?_
          have hB : I 348 (i + 1) = cBh (I 348) s i := by rw [cBh, if_pos (Nat.lt_of_not_le (fun z => c58 (nI_le z (by omega))))]
          rw [hB]
          refine r_istore_n1 dX11_signToken_74 rfl ?_
          refine r_aload_n dX11_signToken_75 rfl ?_
          refine r_getIv dX11_signToken_76 flX11_222 sh_347 (by decide) rfl (wQ_9 _ _ _ _ _ _) ?_
          refine r_bipush (v := 61) dX11_signToken_79 (by decide) ?_
          refine r_ic_eq 94 dX11_signToken_81 (by decide) (fun c81 => ?_) (fun c81 => ?_)
          · exact absurd c81 (by decide)
          · refine r_iload_n dX11_signToken_84 rfl ?_
            refine r_bipush (v := 61) dX11_signToken_85 (by decide) ?_
            refine r_ic_ne 94 dX11_signToken_87 (by decide) (fun c87 => ?_) (fun c87 => ?_)
            · refine r_iconst (v := 0) dX11_signToken_94 (by decide) ?_
              refine r_istore_n2 dX11_signToken_95 rfl ?_
              refine r_aload_n dX11_signToken_96 rfl ?_
              refine r_getIv dX11_signToken_97 flX11_222 sh_347 (by decide) rfl (wQ_9 _ _ _ _ _ _) ?_
              refine r_bipush (v := 60) dX11_signToken_100 (by decide) ?_
              refine r_ic_ne 115 dX11_signToken_102 (by decide) (fun c102 => ?_) (fun c102 => ?_)
              · refine r_iconst (v := 0) dX11_signToken_115 (by decide) ?_
                refine r_istore_n3 dX11_signToken_116 rfl ?_
                refine r_iload_n dX11_signToken_117 rfl ?_
                refine r_if_ne 125 dX11_signToken_118 (by decide) (fun c118 => ?_) (fun c118 => ?_)
                · exact absurd c118 (by decide)
                · refine r_iload_n dX11_signToken_121 rfl ?_
                  refine r_if_eq 135 dX11_signToken_122 (by decide) (fun c122 => ?_) (fun c122 => ?_)
                  · refine r_aload_n dX11_signToken_135 rfl ?_
                    refine r_iconst (v := 5) dX11_signToken_136 (by decide) ?_
                    refine r_putIv dX11_signToken_137 flX11_211 ⟨_, _, _, rfl, Or.inl rfl⟩ sh_347 (by decide) rfl rfl rfl (wQ_x8 _ _ _ _ _ _ _) ?_
                    refine r_aload_n dX11_signToken_140 rfl ?_
                    refine r_aload_n dX11_signToken_141 rfl ?_
                    refine r_getIv dX11_signToken_142 flX11_222 sh_347 (by decide) rfl (wQ_9 _ _ _ _ _ _) ?_
                    refine r_bipush (v := 61) dX11_signToken_145 (by decide) ?_
                    refine r_ic_ne 154 dX11_signToken_147 (by decide) (fun c147 => ?_) (fun c147 => ?_)
                    · refine r_aload_n dX11_signToken_154 rfl ?_
                      refine r_getIv dX11_signToken_155 flX11_222 sh_347 (by decide) rfl (wQ_9 _ _ _ _ _ _) ?_
                      refine r_bipush (v := 60) dX11_signToken_158 (by decide) ?_
                      refine r_ic_ne 183 dX11_signToken_160 (by decide) (fun c160 => ?_) (fun c160 => ?_)
                      · refine r_iload_n dX11_signToken_183 rfl ?_
                        refine r_if_eq 191 dX11_signToken_184 (by decide) (fun c184 => ?_) (fun c184 => ?_)
                        · refine r_iconst (v := 5) dX11_signToken_191 (by decide) ?_
                          refine r_putIv dX11_signToken_192 flX11_222 ⟨_, _, _, rfl, Or.inl rfl⟩ sh_347 (by decide) rfl rfl rfl (wQ_x9 _ _ _ _ _ _ _) ?_
                          refine r_goto 290 dX11_signToken_195 (by decide) ?_
                          exact r_vret dX11_signToken_290 rfl rfl (by rw [rSi, if_neg x60, if_pos x62, if_neg c87])
                        · exact absurd c184 (by decide)
                      · exact absurd c160 (by decide)
                    · exact absurd c147 (by decide)
                  · exact absurd c122 (by decide)
              · exact absurd c102 (by decide)
            · refine r_iconst (v := 1) dX11_signToken_90 (by decide) ?_
              refine r_goto 95 dX11_signToken_91 (by decide) ?_
              refine r_istore_n2 dX11_signToken_95 rfl ?_
              refine r_aload_n dX11_signToken_96 rfl ?_
              refine r_getIv dX11_signToken_97 flX11_222 sh_347 (by decide) rfl (wQ_9 _ _ _ _ _ _) ?_
              refine r_bipush (v := 60) dX11_signToken_100 (by decide) ?_
              refine r_ic_ne 115 dX11_signToken_102 (by decide) (fun c102 => ?_) (fun c102 => ?_)
              · refine r_iconst (v := 0) dX11_signToken_115 (by decide) ?_
                refine r_istore_n3 dX11_signToken_116 rfl ?_
                refine r_iload_n dX11_signToken_117 rfl ?_
                refine r_if_ne 125 dX11_signToken_118 (by decide) (fun c118 => ?_) (fun c118 => ?_)
                · refine r_aload_n dX11_signToken_125 rfl ?_
                  refine r_dup dX11_signToken_126 rfl ?_
                  refine r_getIv dX11_signToken_127 flX11_208 sh_347 (by decide) rfl (wQ_7 _ _ _ _ _ _) ?_
                  refine r_iconst (v := 1) dX11_signToken_130 (by decide) ?_
                  refine r_iadd dX11_signToken_131 ?_
                  refine r_putIv dX11_signToken_132 flX11_208 ⟨_, _, _, rfl, Or.inl rfl⟩ sh_347 (by decide) rfl rfl rfl (wQ_x7 _ _ _ _ _ _ _) ?_
                  refine r_aload_n dX11_signToken_135 rfl ?_
                  refine r_iconst (v := 5) dX11_signToken_136 (by decide) ?_
                  refine r_putIv dX11_signToken_137 flX11_211 ⟨_, _, _, rfl, Or.inl rfl⟩ sh_347 (by decide) rfl rfl rfl (wQ_x8 _ _ _ _ _ _ _) ?_
                  refine r_aload_n dX11_signToken_140 rfl ?_
                  refine r_aload_n dX11_signToken_141 rfl ?_
                  refine r_getIv dX11_signToken_142 flX11_222 sh_347 (by decide) rfl (wQ_9 _ _ _ _ _ _) ?_
                  refine r_bipush (v := 61) dX11_signToken_145 (by decide) ?_
                  refine r_ic_ne 154 dX11_signToken_147 (by decide) (fun c147 => ?_) (fun c147 => ?_)
                  · refine r_aload_n dX11_signToken_154 rfl ?_
                    refine r_getIv dX11_signToken_155 flX11_222 sh_347 (by decide) rfl (wQ_9 _ _ _ _ _ _) ?_
                    refine r_bipush (v := 60) dX11_signToken_158 (by decide) ?_
                    refine r_ic_ne 183 dX11_signToken_160 (by decide) (fun c160 => ?_) (fun c160 => ?_)
                    · refine r_iload_n dX11_signToken_183 rfl ?_
                      refine r_if_eq 191 dX11_signToken_184 (by decide) (fun c184 => ?_) (fun c184 => ?_)
                      · exact absurd c184 (by decide)
                      · refine r_iconst (v := 4) dX11_signToken_187 (by decide) ?_
                        refine r_goto 192 dX11_signToken_188 (by decide) ?_
                        refine r_putIv dX11_signToken_192 flX11_222 ⟨_, _, _, rfl, Or.inl rfl⟩ sh_347 (by decide) rfl rfl rfl (wQ_x9 _ _ _ _ _ _ _) ?_
                        refine r_goto 290 dX11_signToken_195 (by decide) ?_
                        exact r_vret dX11_signToken_290 rfl rfl (by rw [rSi, if_neg x60, if_pos x62, if_pos c87, nI_1])
                    · exact absurd c160 (by decide)
                  · exact absurd c147 (by decide)
                · exact absurd c118 (by decide)
              · exact absurd c102 (by decide)
      · exact absurd c38 (by decide)
  by_cases x61 : I 348 i = 61
  · refine r_aload_n dX11_signToken_0 rfl ?_
    refine r_aload_n dX11_signToken_1 rfl ?_
    refine r_getR dX11_signToken_2 flX11_7 sh_347 (by decide) rfl (pf_347_0 hP) ?_
    refine r_aload_n dX11_signToken_5 rfl ?_
    refine r_getIv dX11_signToken_6 flX11_208 sh_347 (by decide) rfl (wQ_7 _ _ _ _ _ _) ?_
    refine r_ialv dX11_signToken_9 sh_348 (vp_in_nI (n := i) (by omega) (by decide)) ((wQ_o _ _ _ _ _ _ (by decide) _).trans (congrArg (I 348) (nI_clamp (n := i) (by omega)))) ?_
    refine r_putIv dX11_signToken_10 flX11_222 ⟨_, _, _, rfl, Or.inl rfl⟩ sh_347 (by decide) rfl rfl rfl (wQ_x9 _ _ _ _ _ _ _) ?_
    refine r_aload_n dX11_signToken_13 rfl ?_
    refine r_dup dX11_signToken_14 rfl ?_
    refine r_getIv dX11_signToken_15 flX11_208 sh_347 (by decide) rfl (wQ_7 _ _ _ _ _ _) ?_
    refine r_iconst (v := 1) dX11_signToken_18 (by decide) ?_
    refine r_iadd dX11_signToken_19 ?_
    refine r_putIv dX11_signToken_20 flX11_208 ⟨_, _, _, rfl, Or.inl rfl⟩ sh_347 (by decide) rfl rfl rfl (wQ_x7 _ _ _ _ _ _ _) ?_
    rw [nI_1, x61]
    refine r_aload_n dX11_signToken_23 rfl ?_
    refine r_getIv dX11_signToken_24 flX11_222 sh_347 (by decide) rfl (wQ_9 _ _ _ _ _ _) ?_
    refine r_bipush (v := 60) dX11_signToken_27 (by decide) ?_
    refine r_ic_eq 50 dX11_signToken_29 (by decide) (fun c29 => ?_) (fun c29 => ?_)
    · exact absurd c29 (by decide)
    · refine r_aload_n dX11_signToken_32 rfl ?_
      refine r_getIv dX11_signToken_33 flX11_222 sh_347 (by decide) rfl (wQ_9 _ _ _ _ _ _) ?_
      refine r_bipush (v := 62) dX11_signToken_36 (by decide) ?_
      refine r_ic_eq 50 dX11_signToken_38 (by decide) (fun c38 => ?_) (fun c38 => ?_)
      · exact absurd c38 (by decide)
      · refine r_aload_n dX11_signToken_41 rfl ?_
        refine r_getIv dX11_signToken_42 flX11_222 sh_347 (by decide) rfl (wQ_9 _ _ _ _ _ _) ?_
        refine r_bipush (v := 61) dX11_signToken_45 (by decide) ?_
        refine r_ic_ne 198 dX11_signToken_47 (by decide) (fun c47 => ?_) (fun c47 => ?_)
        · exact absurd c47 (by decide)
        · refine r_aload_n dX11_signToken_50 rfl ?_
          refine r_getIv dX11_signToken_51 flX11_208 sh_347 (by decide) rfl (wQ_7 _ _ _ _ _ _) ?_
          refine r_aload_n dX11_signToken_54 rfl ?_
          refine r_getIv dX11_signToken_55 flX11_205 sh_347 (by decide) rfl (wQ_6 _ _ _ _ _ _) ?_
          refine r_ic_ge 73 dX11_signToken_58 (by decide) (fun c58 => ?_) (fun c58 => ?_)
          · refine r_iconst (v := 0) dX11_signToken_73 (by decide) ?_
            have hB : 0 = cBh (I 348) s i := by rw [cBh, if_neg (fun z => absurd c58 (nI_ge z (by omega)))]
            rw [hB]
            refine r_istore_n1 dX11_signToken_74 rfl ?_
            refine r_aload_n dX11_signToken_75 rfl ?_
            refine r_getIv dX11_signToken_76 flX11_222 sh_347 (by decide) rfl (wQ_9 _ _ _ _ _ _) ?_
            refine r_bipush (v := 61) dX11_signToken_79 (by decide) ?_
            refine r_ic_eq 94 dX11_signToken_81 (by decide) (fun c81 => ?_) (fun c81 => ?_)
            · refine r_iconst (v := 0) dX11_signToken_94 (by decide) ?_
              refine r_istore_n2 dX11_signToken_95 rfl ?_
              refine r_aload_n dX11_signToken_96 rfl ?_
              refine r_getIv dX11_signToken_97 flX11_222 sh_347 (by decide) rfl (wQ_9 _ _ _ _ _ _) ?_
              refine r_bipush (v := 60) dX11_signToken_100 (by decide) ?_
              refine r_ic_ne 115 dX11_signToken_102 (by decide) (fun c102 => ?_) (fun c102 => ?_)
              · refine r_iconst (v := 0) dX11_signToken_115 (by decide) ?_
                refine r_istore_n3 dX11_signToken_116 rfl ?_
                refine r_iload_n dX11_signToken_117 rfl ?_
                refine r_if_ne 125 dX11_signToken_118 (by decide) (fun c118 => ?_) (fun c118 => ?_)
                · exact absurd c118 (by decide)
                · refine r_iload_n dX11_signToken_121 rfl ?_
                  refine r_if_eq 135 dX11_signToken_122 (by decide) (fun c122 => ?_) (fun c122 => ?_)
                  · refine r_aload_n dX11_signToken_135 rfl ?_
                    refine r_iconst (v := 5) dX11_signToken_136 (by decide) ?_
                    refine r_putIv dX11_signToken_137 flX11_211 ⟨_, _, _, rfl, Or.inl rfl⟩ sh_347 (by decide) rfl rfl rfl (wQ_x8 _ _ _ _ _ _ _) ?_
                    refine r_aload_n dX11_signToken_140 rfl ?_
                    refine r_aload_n dX11_signToken_141 rfl ?_
                    refine r_getIv dX11_signToken_142 flX11_222 sh_347 (by decide) rfl (wQ_9 _ _ _ _ _ _) ?_
                    refine r_bipush (v := 61) dX11_signToken_145 (by decide) ?_
                    refine r_ic_ne 154 dX11_signToken_147 (by decide) (fun c147 => ?_) (fun c147 => ?_)
                    · exact absurd c147 (by decide)
                    · refine r_iconst (v := 2) dX11_signToken_150 (by decide) ?_
                      refine r_goto 192 dX11_signToken_151 (by decide) ?_
                      refine r_putIv dX11_signToken_192 flX11_222 ⟨_, _, _, rfl, Or.inl rfl⟩ sh_347 (by decide) rfl rfl rfl (wQ_x9 _ _ _ _ _ _ _) ?_
                      refine r_goto 290 dX11_signToken_195 (by decide) ?_
                      exact r_vret dX11_signToken_290 rfl rfl (by rw [rSi, if_neg x60, if_neg x62, if_pos x61])
                  · exact absurd c122 (by decide)
              · exact absurd c102 (by decide)
            · exact absurd c81 (by decide)
          · refine r_aload_n dX11_signToken_61 rfl ?_
            refine r_getR dX11_signToken_62 flX11_7 sh_347 (by decide) rfl (pf_347_0 hP) ?_
            refine r_aload_n dX11_signToken_65 rfl ?_
            refine r_getIv dX11_signToken_66 flX11_208 sh_347 (by decide) rfl (wQ_7 _ _ _ _ _ _) ?_
            refine r_ialv dX11_signToken_69 sh_348 (vp_in_nI (n := i + 1) (Nat.lt_of_lt_of_le (Nat.lt_of_not_le (fun z => c58 (nI_le z (by omega)))) hs) (by decide)) ((wQ_o _ _ _ _ _ _ (by decide) _).trans (congrArg (I 348) (nI_clamp (n := i + 1) (by omega)))) ?_
            refine r_goto 74 dX11_signToken_70 (by decide) ?_
            have hB : I 348 (i + 1) = cBh (I 348) s i := by rw [cBh, if_pos (Nat.lt_of_not_le (fun z => c58 (nI_le z (by omega))))]
            rw [hB]
            refine r_istore_n1 dX11_signToken_74 rfl ?_
            refine r_aload_n dX11_signToken_75 rfl ?_
            refine r_getIv dX11_signToken_76 flX11_222 sh_347 (by decide) rfl (wQ_9 _ _ _ _ _ _) ?_
            refine r_bipush (v := 61) dX11_signToken_79 (by decide) ?_
            refine r_ic_eq 94 dX11_signToken_81 (by decide) (fun c81 => ?_) (fun c81 => ?_)
            · refine r_iconst (v := 0) dX11_signToken_94 (by decide) ?_
              refine r_istore_n2 dX11_signToken_95 rfl ?_
              refine r_aload_n dX11_signToken_96 rfl ?_
              refine r_getIv dX11_signToken_97 flX11_222 sh_347 (by decide) rfl (wQ_9 _ _ _ _ _ _) ?_
              refine r_bipush (v := 60) dX11_signToken_100 (by decide) ?_
              refine r_ic_ne 115 dX11_signToken_102 (by decide) (fun c102 => ?_) (fun c102 => ?_)
              · refine r_iconst (v := 0) dX11_signToken_115 (by decide) ?_
                refine r_istore_n3 dX11_signToken_116 rfl ?_
                refine r_iload_n dX11_signToken_117 rfl ?_
                refine r_if_ne 125 dX11_signToken_118 (by decide) (fun c118 => ?_) (fun c118 => ?_)
                · exact absurd c118 (by decide)
                · refine r_iload_n dX11_signToken_121 rfl ?_
                  refine r_if_eq 135 dX11_signToken_122 (by decide) (fun c122 => ?_) (fun c122 => ?_)
                  · refine r_aload_n dX11_signToken_135 rfl ?_
                    refine r_iconst (v := 5) dX11_signToken_136 (by decide) ?_
                    refine r_putIv dX11_signToken_137 flX11_211 ⟨_, _, _, rfl, Or.inl rfl⟩ sh_347 (by decide) rfl rfl rfl (wQ_x8 _ _ _ _ _ _ _) ?_
                    refine r_aload_n dX11_signToken_140 rfl ?_
                    refine r_aload_n dX11_signToken_141 rfl ?_
                    refine r_getIv dX11_signToken_142 flX11_222 sh_347 (by decide) rfl (wQ_9 _ _ _ _ _ _) ?_
                    refine r_bipush (v := 61) dX11_signToken_145 (by decide) ?_
                    refine r_ic_ne 154 dX11_signToken_147 (by decide) (fun c147 => ?_) (fun c147 => ?_)
                    · exact absurd c147 (by decide)
                    · refine r_iconst (v := 2) dX11_signToken_150 (by decide) ?_
                      refine r_goto 192 dX11_signToken_151 (by decide) ?_
                      refine r_putIv dX11_signToken_192 flX11_222 ⟨_, _, _, rfl, Or.inl rfl⟩ sh_347 (by decide) rfl rfl rfl (wQ_x9 _ _ _ _ _ _ _) ?_
                      refine r_goto 290 dX11_signToken_195 (by decide) ?_
                      exact r_vret dX11_signToken_290 rfl rfl (by rw [rSi, if_neg x60, if_neg x62, if_pos x61])
                  · exact absurd c122 (by decide)
              · exact absurd c102 (by decide)
            · exact absurd c81 (by decide)
  refine r_aload_n dX11_signToken_0 rfl ?_
  refine r_aload_n dX11_signToken_1 rfl ?_
  refine r_getR dX11_signToken_2 flX11_7 sh_347 (by decide) rfl (pf_347_0 hP) ?_
  refine r_aload_n dX11_signToken_5 rfl ?_
  refine r_getIv dX11_signToken_6 flX11_208 sh_347 (by decide) rfl (wQ_7 _ _ _ _ _ _) ?_
  refine r_ialv dX11_signToken_9 sh_348 (vp_in_nI (n := i) (by omega) (by decide)) ((wQ_o _ _ _ _ _ _ (by decide) _).trans (congrArg (I 348) (nI_clamp (n := i) (by omega)))) ?_
  refine r_putIv dX11_signToken_10 flX11_222 ⟨_, _, _, rfl, Or.inl rfl⟩ sh_347 (by decide) rfl rfl rfl (wQ_x9 _ _ _ _ _ _ _) ?_
  refine r_aload_n dX11_signToken_13 rfl ?_
  refine r_dup dX11_signToken_14 rfl ?_
  refine r_getIv dX11_signToken_15 flX11_208 sh_347 (by decide) rfl (wQ_7 _ _ _ _ _ _) ?_
  refine r_iconst (v := 1) dX11_signToken_18 (by decide) ?_
  refine r_iadd dX11_signToken_19 ?_
  refine r_putIv dX11_signToken_20 flX11_208 ⟨_, _, _, rfl, Or.inl rfl⟩ sh_347 (by decide) rfl rfl rfl (wQ_x7 _ _ _ _ _ _ _) ?_
  rw [nI_1]
  refine r_aload_n dX11_signToken_23 rfl ?_
  refine r_getIv dX11_signToken_24 flX11_222 sh_347 (by decide) rfl (wQ_9 _ _ _ _ _ _) ?_
  refine r_bipush (v := 60) dX11_signToken_27 (by decide) ?_
  refine r_ic_eq 50 dX11_signToken_29 (by decide) (fun c29 => ?_) (fun c29 => ?_)
  · exact absurd c29 x60
  · refine r_aload_n dX11_signToken_32 rfl ?_
    refine r_getIv dX11_signToken_33 flX11_222 sh_347 (by decide) rfl (wQ_9 _ _ _ _ _ _) ?_
    refine r_bipush (v := 62) dX11_signToken_36 (by decide) ?_
    refine r_ic_eq 50 dX11_signToken_38 (by decide) (fun c38 => ?_) (fun c38 => ?_)
    · exact absurd c38 x62
    · refine r_aload_n dX11_signToken_41 rfl ?_
      refine r_getIv dX11_signToken_42 flX11_222 sh_347 (by decide) rfl (wQ_9 _ _ _ _ _ _) ?_
      refine r_bipush (v := 61) dX11_signToken_45 (by decide) ?_
      refine r_ic_ne 198 dX11_signToken_47 (by decide) (fun c47 => ?_) (fun c47 => ?_)
      · refine r_aload_n dX11_signToken_198 rfl ?_
        refine r_getIv dX11_signToken_199 flX11_222 sh_347 (by decide) rfl (wQ_9 _ _ _ _ _ _) ?_
        refine r_bipush (v := 59) dX11_signToken_202 (by decide) ?_
        refine r_ic_eq 270 dX11_signToken_204 (by decide) (fun c204 => ?_) (fun c204 => ?_)
        · refine r_iconst (v := 1) dX11_signToken_270 (by decide) ?_
          refine r_goto 275 dX11_signToken_271 (by decide) ?_
          refine r_istore_n1 dX11_signToken_275 rfl ?_
          refine r_aload_n dX11_signToken_276 rfl ?_
          refine r_iload_n dX11_signToken_277 rfl ?_
          refine r_if_eq 285 dX11_signToken_278 (by decide) (fun c278 => ?_) (fun c278 => ?_)
          · exact absurd c278 (by decide)
          · refine r_iconst (v := 4) dX11_signToken_281 (by decide) ?_
            refine r_goto 287 dX11_signToken_282 (by decide) ?_
            refine r_putIv dX11_signToken_287 flX11_211 ⟨_, _, _, rfl, Or.inl rfl⟩ sh_347 (by decide) rfl rfl rfl (wQ_x8 _ _ _ _ _ _ _) ?_
            exact r_vret dX11_signToken_290 rfl rfl (by rw [rSi, if_neg x60, if_neg x62, if_neg x61, if_pos (Or.inl c204)])
        · refine r_aload_n dX11_signToken_207 rfl ?_
          refine r_getIv dX11_signToken_208 flX11_222 sh_347 (by decide) rfl (wQ_9 _ _ _ _ _ _) ?_
          refine r_bipush (v := 40) dX11_signToken_211 (by decide) ?_
          refine r_ic_eq 270 dX11_signToken_213 (by decide) (fun c213 => ?_) (fun c213 => ?_)
          · refine r_iconst (v := 1) dX11_signToken_270 (by decide) ?_
            refine r_goto 275 dX11_signToken_271 (by decide) ?_
            refine r_istore_n1 dX11_signToken_275 rfl ?_
            refine r_aload_n dX11_signToken_276 rfl ?_
            refine r_iload_n dX11_signToken_277 rfl ?_
            refine r_if_eq 285 dX11_signToken_278 (by decide) (fun c278 => ?_) (fun c278 => ?_)
            · exact absurd c278 (by decide)
            · refine r_iconst (v := 4) dX11_signToken_281 (by decide) ?_
              refine r_goto 287 dX11_signToken_282 (by decide) ?_
              refine r_putIv dX11_signToken_287 flX11_211 ⟨_, _, _, rfl, Or.inl rfl⟩ sh_347 (by decide) rfl rfl rfl (wQ_x8 _ _ _ _ _ _ _) ?_
              exact r_vret dX11_signToken_290 rfl rfl (by rw [rSi, if_neg x60, if_neg x62, if_neg x61, if_pos (Or.inr (Or.inl c213))])
          · refine r_aload_n dX11_signToken_216 rfl ?_
            refine r_getIv dX11_signToken_217 flX11_222 sh_347 (by decide) rfl (wQ_9 _ _ _ _ _ _) ?_
            refine r_bipush (v := 41) dX11_signToken_220 (by decide) ?_
            refine r_ic_eq 270 dX11_signToken_222 (by decide) (fun c222 => ?_) (fun c222 => ?_)
            · refine r_iconst (v := 1) dX11_signToken_270 (by decide) ?_
              refine r_goto 275 dX11_signToken_271 (by decide) ?_
              refine r_istore_n1 dX11_signToken_275 rfl ?_
              refine r_aload_n dX11_signToken_276 rfl ?_
              refine r_iload_n dX11_signToken_277 rfl ?_
              refine r_if_eq 285 dX11_signToken_278 (by decide) (fun c278 => ?_) (fun c278 => ?_)
              · exact absurd c278 (by decide)
              · refine r_iconst (v := 4) dX11_signToken_281 (by decide) ?_
                refine r_goto 287 dX11_signToken_282 (by decide) ?_
                refine r_putIv dX11_signToken_287 flX11_211 ⟨_, _, _, rfl, Or.inl rfl⟩ sh_347 (by decide) rfl rfl rfl (wQ_x8 _ _ _ _ _ _ _) ?_
                exact r_vret dX11_signToken_290 rfl rfl (by rw [rSi, if_neg x60, if_neg x62, if_neg x61, if_pos (Or.inr (Or.inr (Or.inl c222)))])
            · refine r_aload_n dX11_signToken_225 rfl ?_
              refine r_getIv dX11_signToken_226 flX11_222 sh_347 (by decide) rfl (wQ_9 _ _ _ _ _ _) ?_
              refine r_bipush (v := 43) dX11_signToken_229 (by decide) ?_
              refine r_ic_eq 270 dX11_signToken_231 (by decide) (fun c231 => ?_) (fun c231 => ?_)
              · refine r_iconst (v := 1) dX11_signToken_270 (by decide) ?_
                refine r_goto 275 dX11_signToken_271 (by decide) ?_
                refine r_istore_n1 dX11_signToken_275 rfl ?_
                refine r_aload_n dX11_signToken_276 rfl ?_
                refine r_iload_n dX11_signToken_277 rfl ?_
                refine r_if_eq 285 dX11_signToken_278 (by decide) (fun c278 => ?_) (fun c278 => ?_)
                · exact absurd c278 (by decide)
                · refine r_iconst (v := 4) dX11_signToken_281 (by decide) ?_
                  refine r_goto 287 dX11_signToken_282 (by decide) ?_
                  refine r_putIv dX11_signToken_287 flX11_211 ⟨_, _, _, rfl, Or.inl rfl⟩ sh_347 (by decide) rfl rfl rfl (wQ_x8 _ _ _ _ _ _ _) ?_
                  exact r_vret dX11_signToken_290 rfl rfl (by rw [rSi, if_neg x60, if_neg x62, if_neg x61, if_pos (Or.inr (Or.inr (Or.inr (Or.inl c231))))])
              · refine r_aload_n dX11_signToken_234 rfl ?_
                refine r_getIv dX11_signToken_235 flX11_222 sh_347 (by decide) rfl (wQ_9 _ _ _ _ _ _) ?_
                refine r_bipush (v := 45) dX11_signToken_238 (by decide) ?_
                refine r_ic_eq 270 dX11_signToken_240 (by decide) (fun c240 => ?_) (fun c240 => ?_)
                · refine r_iconst (v := 1) dX11_signToken_270 (by decide) ?_
                  refine r_goto 275 dX11_signToken_271 (by decide) ?_
                  refine r_istore_n1 dX11_signToken_275 rfl ?_
                  refine r_aload_n dX11_signToken_276 rfl ?_
                  refine r_iload_n dX11_signToken_277 rfl ?_
                  refine r_if_eq 285 dX11_signToken_278 (by decide) (fun c278 => ?_) (fun c278 => ?_)
                  · exact absurd c278 (by decide)
                  · refine r_iconst (v := 4) dX11_signToken_281 (by decide) ?_
                    refine r_goto 287 dX11_signToken_282 (by decide) ?_
                    refine r_putIv dX11_signToken_287 flX11_211 ⟨_, _, _, rfl, Or.inl rfl⟩ sh_347 (by decide) rfl rfl rfl (wQ_x8 _ _ _ _ _ _ _) ?_
                    exact r_vret dX11_signToken_290 rfl rfl (by rw [rSi, if_neg x60, if_neg x62, if_neg x61, if_pos (Or.inr (Or.inr (Or.inr (Or.inr (Or.inl c240)))))])
                · refine r_aload_n dX11_signToken_243 rfl ?_
                  refine r_getIv dX11_signToken_244 flX11_222 sh_347 (by decide) rfl (wQ_9 _ _ _ _ _ _) ?_
                  refine r_bipush (v := 42) dX11_signToken_247 (by decide) ?_
                  refine r_ic_eq 270 dX11_signToken_249 (by decide) (fun c249 => ?_) (fun c249 => ?_)
                  · refine r_iconst (v := 1) dX11_signToken_270 (by decide) ?_
                    refine r_goto 275 dX11_signToken_271 (by decide) ?_
                    refine r_istore_n1 dX11_signToken_275 rfl ?_
                    refine r_aload_n dX11_signToken_276 rfl ?_
                    refine r_iload_n dX11_signToken_277 rfl ?_
                    refine r_if_eq 285 dX11_signToken_278 (by decide) (fun c278 => ?_) (fun c278 => ?_)
                    · exact absurd c278 (by decide)
                    · refine r_iconst (v := 4) dX11_signToken_281 (by decide) ?_
                      refine r_goto 287 dX11_signToken_282 (by decide) ?_
                      refine r_putIv dX11_signToken_287 flX11_211 ⟨_, _, _, rfl, Or.inl rfl⟩ sh_347 (by decide) rfl rfl rfl (wQ_x8 _ _ _ _ _ _ _) ?_
                      exact r_vret dX11_signToken_290 rfl rfl (by rw [rSi, if_neg x60, if_neg x62, if_neg x61, if_pos (Or.inr (Or.inr (Or.inr (Or.inr (Or.inr (Or.inl c249))))))])
                  · refine r_aload_n dX11_signToken_252 rfl ?_
                    refine r_getIv dX11_signToken_253 flX11_222 sh_347 (by decide) rfl (wQ_9 _ _ _ _ _ _) ?_
                    refine r_bipush (v := 47) dX11_signToken_256 (by decide) ?_
                    refine r_ic_eq 270 dX11_signToken_258 (by decide) (fun c258 => ?_) (fun c258 => ?_)
                    · refine r_iconst (v := 1) dX11_signToken_270 (by decide) ?_
                      refine r_goto 275 dX11_signToken_271 (by decide) ?_
                      refine r_istore_n1 dX11_signToken_275 rfl ?_
                      refine r_aload_n dX11_signToken_276 rfl ?_
                      refine r_iload_n dX11_signToken_277 rfl ?_
                      refine r_if_eq 285 dX11_signToken_278 (by decide) (fun c278 => ?_) (fun c278 => ?_)
                      · exact absurd c278 (by decide)
                      · refine r_iconst (v := 4) dX11_signToken_281 (by decide) ?_
                        refine r_goto 287 dX11_signToken_282 (by decide) ?_
                        refine r_putIv dX11_signToken_287 flX11_211 ⟨_, _, _, rfl, Or.inl rfl⟩ sh_347 (by decide) rfl rfl rfl (wQ_x8 _ _ _ _ _ _ _) ?_
                        exact r_vret dX11_signToken_290 rfl rfl (by rw [rSi, if_neg x60, if_neg x62, if_neg x61, if_pos (Or.inr (Or.inr (Or.inr (Or.inr (Or.inr (Or.inr (Or.inl c258)))))))])
                    · refine r_aload_n dX11_signToken_261 rfl ?_
                      refine r_getIv dX11_signToken_262 flX11_222 sh_347 (by decide) rfl (wQ_9 _ _ _ _ _ _) ?_
                      refine r_bipush (v := 37) dX11_signToken_265 (by decide) ?_
                      refine r_ic_ne 274 dX11_signToken_267 (by decide) (fun c267 => ?_) (fun c267 => ?_)
                      · refine r_iconst (v := 0) dX11_signToken_274 (by decide) ?_
                        refine r_istore_n1 dX11_signToken_275 rfl ?_
                        refine r_aload_n dX11_signToken_276 rfl ?_
                        refine r_iload_n dX11_signToken_277 rfl ?_
                        refine r_if_eq 285 dX11_signToken_278 (by decide) (fun c278 => ?_) (fun c278 => ?_)
                        · refine r_bipush (v := 6) dX11_signToken_285 (by decide) ?_
                          refine r_putIv dX11_signToken_287 flX11_211 ⟨_, _, _, rfl, Or.inl rfl⟩ sh_347 (by decide) rfl rfl rfl (wQ_x8 _ _ _ _ _ _ _) ?_
                          exact r_vret dX11_signToken_290 rfl rfl (by rw [rSi, if_neg x60, if_neg x62, if_neg x61, if_neg (fun z => z.elim c204 (fun z => z.elim c213 (fun z => z.elim c222 (fun z => z.elim c231 (fun z => z.elim c240 (fun z => z.elim c249 (fun z => z.elim c258 c267)))))))])
                        · exact absurd c278 (by decide)
                      · refine r_iconst (v := 1) dX11_signToken_270 (by decide) ?_
                        refine r_goto 275 dX11_signToken_271 (by decide) ?_
                        refine r_istore_n1 dX11_signToken_275 rfl ?_
                        refine r_aload_n dX11_signToken_276 rfl ?_
                        refine r_iload_n dX11_signToken_277 rfl ?_
                        refine r_if_eq 285 dX11_signToken_278 (by decide) (fun c278 => ?_) (fun c278 => ?_)
                        · exact absurd c278 (by decide)
                        · refine r_iconst (v := 4) dX11_signToken_281 (by decide) ?_
                          refine r_goto 287 dX11_signToken_282 (by decide) ?_
                          refine r_putIv dX11_signToken_287 flX11_211 ⟨_, _, _, rfl, Or.inl rfl⟩ sh_347 (by decide) rfl rfl rfl (wQ_x8 _ _ _ _ _ _ _) ?_
                          exact r_vret dX11_signToken_290 rfl rfl (by rw [rSi, if_neg x60, if_neg x62, if_neg x61, if_pos (Or.inr (Or.inr (Or.inr (Or.inr (Or.inr (Or.inr (Or.inr (c267))))))))])
      · exact absurd c47 x61
