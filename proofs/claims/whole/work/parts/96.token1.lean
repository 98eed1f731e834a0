/-! the class: tokens -/
/-- the numbers with those of the tokens (cell 28): length, next, place, kind, value -/
def wK (I : Nat → Nat → Int32) (s i p k v : Int32) : Nat → Nat → Int32 := fun a q => if a = 28 then (if q = 1 then s else if q = 2 then i else if q = 3 then p else if q = 4 then k else if q = 5 then v else I a q) else I a q
theorem wK_o (I : Nat → Nat → Int32) (s i p k v : Int32) {a : Nat} (h : a ≠ 28) (q : Nat) : wK I s i p k v a q = I a q := by simp [wK, h]
theorem wK_id {I : Nat → Nat → Int32} : wK I (I 28 1) (I 28 2) (I 28 3) (I 28 4) (I 28 5) = I := by
  funext a q
  simp only [wK]
  by_cases h : a = 28
  · subst h
    simp only [if_true]
    by_cases h1 : q = 1
    · rw [if_pos h1, h1]
    rw [if_neg h1]
    by_cases h1 : q = 2
    · rw [if_pos h1, h1]
    rw [if_neg h1]
    by_cases h1 : q = 3
    · rw [if_pos h1, h1]
    rw [if_neg h1]
    by_cases h1 : q = 4
    · rw [if_pos h1, h1]
    rw [if_neg h1]
    by_cases h1 : q = 5
    · rw [if_pos h1, h1]
    rw [if_neg h1]
  · rw [if_neg h]
theorem wK_1 (I : Nat → Nat → Int32) (s i p k v : Int32) : wK I s i p k v 28 1 = s := by simp [wK]
theorem wK_x1 (I : Nat → Nat → Int32) (s i p k v z : Int32) : xu (wK I s i p k v) 28 1 z = wK I z i p k v := by
  funext a q
  simp only [xu, wK]
  by_cases h : a = 28
  · subst h
    by_cases h1 : q = 1
    · subst h1; simp
    · simp [h1]
  · simp [h]
theorem wK_2 (I : Nat → Nat → Int32) (s i p k v : Int32) : wK I s i p k v 28 2 = i := by simp [wK]
theorem wK_x2 (I : Nat → Nat → Int32) (s i p k v z : Int32) : xu (wK I s i p k v) 28 2 z = wK I s z p k v := by
  funext a q
  simp only [xu, wK]
  by_cases h : a = 28
  · subst h
    by_cases h1 : q = 2
    · subst h1; simp
    · simp [h1]
  · simp [h]
theorem wK_3 (I : Nat → Nat → Int32) (s i p k v : Int32) : wK I s i p k v 28 3 = p := by simp [wK]
theorem wK_x3 (I : Nat → Nat → Int32) (s i p k v z : Int32) : xu (wK I s i p k v) 28 3 z = wK I s i z k v := by
  funext a q
  simp only [xu, wK]
  by_cases h : a = 28
  · subst h
    by_cases h1 : q = 3
    · subst h1; simp
    · simp [h1]
  · simp [h]
theorem wK_4 (I : Nat → Nat → Int32) (s i p k v : Int32) : wK I s i p k v 28 4 = k := by simp [wK]
theorem wK_x4 (I : Nat → Nat → Int32) (s i p k v z : Int32) : xu (wK I s i p k v) 28 4 z = wK I s i p z v := by
  funext a q
  simp only [xu, wK]
  by_cases h : a = 28
  · subst h
    by_cases h1 : q = 4
    · subst h1; simp
    · simp [h1]
  · simp [h]
theorem wK_5 (I : Nat → Nat → Int32) (s i p k v : Int32) : wK I s i p k v 28 5 = v := by simp [wK]
theorem wK_x5 (I : Nat → Nat → Int32) (s i p k v z : Int32) : xu (wK I s i p k v) 28 5 z = wK I s i p k z := by
  funext a q
  simp only [xu, wK]
  by_cases h : a = 28
  · subst h
    by_cases h1 : q = 5
    · subst h1; simp
    · simp [h1]
  · simp [h]
abbrev cLt (x : Int32) : Prop := ¬ x < 97 ∧ ¬ 122 < x
abbrev cDg (x : Int32) : Prop := ¬ x < 48 ∧ ¬ 57 < x
set_option maxHeartbeats 1000000 in
theorem k_cisLetter_t {E : xCl} {ex : Bool} {I : Nat → Nat → Int32} {J : Nat → Nat → Int64} {P : Nat → Nat → Nat} {x : Int32} (h : cLt x) (d : Nat) : xEx E ex (d + 1) yX8_isLetter [.int x] (SH, I, J, P) (some (.int 1)) (SH, I, J, P) := by
  refine x_enter cqX8_isLetter [some (.int x)] rfl (by simp [lg_sl, Value.category]) ?_
  refine r_iload_n dX8_isLetter_0 rfl ?_
  refine r_bipush (v := 97) dX8_isLetter_1 (by decide) ?_
  refine r_ic_lt 16 dX8_isLetter_3 (by decide) (fun c3 => ?_) (fun c3 => ?_)
  · refine r_iconst (v := 0) dX8_isLetter_16 (by decide) ?_
    exact r_iret dX8_isLetter_17 rfl rfl (by simp_all [cLt]) rfl
  · refine r_iload_n dX8_isLetter_6 rfl ?_
    refine r_bipush (v := 122) dX8_isLetter_7 (by decide) ?_
    refine r_ic_gt 16 dX8_isLetter_9 (by decide) (fun c9 => ?_) (fun c9 => ?_)
    · refine r_iconst (v := 0) dX8_isLetter_16 (by decide) ?_
      exact r_iret dX8_isLetter_17 rfl rfl (by simp_all [cLt]) rfl
    · refine r_iconst (v := 1) dX8_isLetter_12 (by decide) ?_
      refine r_goto 17 dX8_isLetter_13 (by decide) ?_
      exact r_iret dX8_isLetter_17 rfl rfl (by simp_all [cLt]) rfl
set_option maxHeartbeats 1000000 in
theorem k_cisLetter_f {E : xCl} {ex : Bool} {I : Nat → Nat → Int32} {J : Nat → Nat → Int64} {P : Nat → Nat → Nat} {x : Int32} (h : ¬ cLt x) (d : Nat) : xEx E ex (d + 1) yX8_isLetter [.int x] (SH, I, J, P) (some (.int 0)) (SH, I, J, P) := by
  refine x_enter cqX8_isLetter [some (.int x)] rfl (by simp [lg_sl, Value.category]) ?_
  refine r_iload_n dX8_isLetter_0 rfl ?_
  refine r_bipush (v := 97) dX8_isLetter_1 (by decide) ?_
  refine r_ic_lt 16 dX8_isLetter_3 (by decide) (fun c3 => ?_) (fun c3 => ?_)
  · refine r_iconst (v := 0) dX8_isLetter_16 (by decide) ?_
    exact r_iret dX8_isLetter_17 rfl rfl (by simp_all [cLt]) rfl
  · refine r_iload_n dX8_isLetter_6 rfl ?_
    refine r_bipush (v := 122) dX8_isLetter_7 (by decide) ?_
    refine r_ic_gt 16 dX8_isLetter_9 (by decide) (fun c9 => ?_) (fun c9 => ?_)
    · refine r_iconst (v := 0) dX8_isLetter_16 (by decide) ?_
      exact r_iret dX8_isLetter_17 rfl rfl (by simp_all [cLt]) rfl
    · refine r_iconst (v := 1) dX8_isLetter_12 (by decide) ?_
      refine r_goto 17 dX8_isLetter_13 (by decide) ?_
      exact r_iret dX8_isLetter_17 rfl rfl (by simp_all [cLt]) rfl
set_option maxHeartbeats 1000000 in
theorem k_cisDigit_t {E : xCl} {ex : Bool} {I : Nat → Nat → Int32} {J : Nat → Nat → Int64} {P : Nat → Nat → Nat} {x : Int32} (h : cDg x) (d : Nat) : xEx E ex (d + 1) yX8_isDigit [.int x] (SH, I, J, P) (some (.int 1)) (SH, I, J, P) := by
  refine x_enter cqX8_isDigit [some (.int x)] rfl (by simp [lg_sl, Value.category]) ?_
  refine r_iload_n dX8_isDigit_0 rfl ?_
  refine r_bipush (v := 48) dX8_isDigit_1 (by decide) ?_
  refine r_ic_lt 16 dX8_isDigit_3 (by decide) (fun c3 => ?_) (fun c3 => ?_)
  · refine r_iconst (v := 0) dX8_isDigit_16 (by decide) ?_
    exact r_iret dX8_isDigit_17 rfl rfl (by simp_all [cDg]) rfl
  · refine r_iload_n dX8_isDigit_6 rfl ?_
    refine r_bipush (v := 57) dX8_isDigit_7 (by decide) ?_
    refine r_ic_gt 16 dX8_isDigit_9 (by decide) (fun c9 => ?_) (fun c9 => ?_)
    · refine r_iconst (v := 0) dX8_isDigit_16 (by decide) ?_
      exact r_iret dX8_isDigit_17 rfl rfl (by simp_all [cDg]) rfl
    · refine r_iconst (v := 1) dX8_isDigit_12 (by decide) ?_
      refine r_goto 17 dX8_isDigit_13 (by decide) ?_
      exact r_iret dX8_isDigit_17 rfl rfl (by simp_all [cDg]) rfl
set_option maxHeartbeats 1000000 in
theorem k_cisDigit_f {E : xCl} {ex : Bool} {I : Nat → Nat → Int32} {J : Nat → Nat → Int64} {P : Nat → Nat → Nat} {x : Int32} (h : ¬ cDg x) (d : Nat) : xEx E ex (d + 1) yX8_isDigit [.int x] (SH, I, J, P) (some (.int 0)) (SH, I, J, P) := by
  refine x_enter cqX8_isDigit [some (.int x)] rfl (by simp [lg_sl, Value.category]) ?_
  refine r_iload_n dX8_isDigit_0 rfl ?_
  refine r_bipush (v := 48) dX8_isDigit_1 (by decide) ?_
  refine r_ic_lt 16 dX8_isDigit_3 (by decide) (fun c3 => ?_) (fun c3 => ?_)
  · refine r_iconst (v := 0) dX8_isDigit_16 (by decide) ?_
    exact r_iret dX8_isDigit_17 rfl rfl (by simp_all [cDg]) rfl
  · refine r_iload_n dX8_isDigit_6 rfl ?_
    refine r_bipush (v := 57) dX8_isDigit_7 (by decide) ?_
    refine r_ic_gt 16 dX8_isDigit_9 (by decide) (fun c9 => ?_) (fun c9 => ?_)
    · refine r_iconst (v := 0) dX8_isDigit_16 (by decide) ?_
      exact r_iret dX8_isDigit_17 rfl rfl (by simp_all [cDg]) rfl
    · refine r_iconst (v := 1) dX8_isDigit_12 (by decide) ?_
      refine r_goto 17 dX8_isDigit_13 (by decide) ?_
      exact r_iret dX8_isDigit_17 rfl rfl (by simp_all [cDg]) rfl
def cDk (x z : Int32) : Int32 := if x = 60 ∧ z = 61 then 24 else if x = 60 ∧ z = 62 then 26 else if x = 62 ∧ z = 61 then 27 else 39
set_option maxHeartbeats 1000000 in
theorem k_doubleKind {E : xCl} {ex : Bool} {I : Nat → Nat → Int32} {J : Nat → Nat → Int64} {P : Nat → Nat → Nat} (x z : Int32) (d : Nat) : xEx E ex (d + 1) yX8_doubleKind [.int x, .int z] (SH, I, J, P) (some (.int (cDk x z))) (SH, I, J, P) := by
  refine x_enter cqX8_doubleKind [some (.int x), some (.int z)] rfl (by simp [lg_sl, Value.category]) ?_
  refine r_iload_n dX8_doubleKind_0 rfl ?_
  refine r_bipush (v := 60) dX8_doubleKind_1 (by decide) ?_
  refine r_ic_ne 15 dX8_doubleKind_3 (by decide) (fun c3 => ?_) (fun c3 => ?_)
  · refine r_iload_n dX8_doubleKind_15 rfl ?_
    refine r_bipush (v := 60) dX8_doubleKind_16 (by decide) ?_
    refine r_ic_ne 30 dX8_doubleKind_18 (by decide) (fun c18 => ?_) (fun c18 => ?_)
    · refine r_iload_n dX8_doubleKind_30 rfl ?_
      refine r_bipush (v := 62) dX8_doubleKind_31 (by decide) ?_
      refine r_ic_ne 47 dX8_doubleKind_33 (by decide) (fun c33 => ?_) (fun c33 => ?_)
      · refine r_bipush (v := 39) dX8_doubleKind_47 (by decide) ?_
        exact r_iret dX8_doubleKind_49 rfl rfl (by simp_all [cDk]) rfl
      · refine r_iload_n dX8_doubleKind_36 rfl ?_
        refine r_bipush (v := 61) dX8_doubleKind_37 (by decide) ?_
        refine r_ic_ne 47 dX8_doubleKind_39 (by decide) (fun c39 => ?_) (fun c39 => ?_)
        · refine r_bipush (v := 39) dX8_doubleKind_47 (by decide) ?_
          exact r_iret dX8_doubleKind_49 rfl rfl (by simp_all [cDk]) rfl
        · refine r_bipush (v := 27) dX8_doubleKind_42 (by decide) ?_
          refine r_goto 49 dX8_doubleKind_44 (by decide) ?_
          exact r_iret dX8_doubleKind_49 rfl rfl (by simp_all [cDk]) rfl
    · refine r_iload_n dX8_doubleKind_21 rfl ?_
      refine r_bipush (v := 62) dX8_doubleKind_22 (by decide) ?_
      refine r_ic_ne 30 dX8_doubleKind_24 (by decide) (fun c24 => ?_) (fun c24 => ?_)
      · refine r_iload_n dX8_doubleKind_30 rfl ?_
        refine r_bipush (v := 62) dX8_doubleKind_31 (by decide) ?_
        refine r_ic_ne 47 dX8_doubleKind_33 (by decide) (fun c33 => ?_) (fun c33 => ?_)
        · refine r_bipush (v := 39) dX8_doubleKind_47 (by decide) ?_
          exact r_iret dX8_doubleKind_49 rfl rfl (by simp_all [cDk]) rfl
        · refine r_iload_n dX8_doubleKind_36 rfl ?_
          refine r_bipush (v := 61) dX8_doubleKind_37 (by decide) ?_
          refine r_ic_ne 47 dX8_doubleKind_39 (by decide) (fun c39 => ?_) (fun c39 => ?_)
          · refine r_bipush (v := 39) dX8_doubleKind_47 (by decide) ?_
            exact r_iret dX8_doubleKind_49 rfl rfl (by simp_all [cDk]) rfl
          · refine r_bipush (v := 27) dX8_doubleKind_42 (by decide) ?_
            refine r_goto 49 dX8_doubleKind_44 (by decide) ?_
            exact r_iret dX8_doubleKind_49 rfl rfl (by simp_all [cDk]) rfl
      · refine r_bipush (v := 26) dX8_doubleKind_27 (by decide) ?_
        exact r_iret dX8_doubleKind_29 rfl rfl (by simp_all [cDk]) rfl
  · refine r_iload_n dX8_doubleKind_6 rfl ?_
    refine r_bipush (v := 61) dX8_doubleKind_7 (by decide) ?_
    refine r_ic_ne 15 dX8_doubleKind_9 (by decide) (fun c9 => ?_) (fun c9 => ?_)
    · refine r_iload_n dX8_doubleKind_15 rfl ?_
      refine r_bipush (v := 60) dX8_doubleKind_16 (by decide) ?_
      refine r_ic_ne 30 dX8_doubleKind_18 (by decide) (fun c18 => ?_) (fun c18 => ?_)
      · refine r_iload_n dX8_doubleKind_30 rfl ?_
        refine r_bipush (v := 62) dX8_doubleKind_31 (by decide) ?_
        refine r_ic_ne 47 dX8_doubleKind_33 (by decide) (fun c33 => ?_) (fun c33 => ?_)
        · refine r_bipush (v := 39) dX8_doubleKind_47 (by decide) ?_
          exact r_iret dX8_doubleKind_49 rfl rfl (by simp_all [cDk]) rfl
        · refine r_iload_n dX8_doubleKind_36 rfl ?_
          refine r_bipush (v := 61) dX8_doubleKind_37 (by decide) ?_
          refine r_ic_ne 47 dX8_doubleKind_39 (by decide) (fun c39 => ?_) (fun c39 => ?_)
          · refine r_bipush (v := 39) dX8_doubleKind_47 (by decide) ?_
            exact r_iret dX8_doubleKind_49 rfl rfl (by simp_all [cDk]) rfl
          · refine r_bipush (v := 27) dX8_doubleKind_42 (by decide) ?_
            refine r_goto 49 dX8_doubleKind_44 (by decide) ?_
            exact r_iret dX8_doubleKind_49 rfl rfl (by simp_all [cDk]) rfl
      · refine r_iload_n dX8_doubleKind_21 rfl ?_
        refine r_bipush (v := 62) dX8_doubleKind_22 (by decide) ?_
        refine r_ic_ne 30 dX8_doubleKind_24 (by decide) (fun c24 => ?_) (fun c24 => ?_)
        · refine r_iload_n dX8_doubleKind_30 rfl ?_
          refine r_bipush (v := 62) dX8_doubleKind_31 (by decide) ?_
          refine r_ic_ne 47 dX8_doubleKind_33 (by decide) (fun c33 => ?_) (fun c33 => ?_)
          · refine r_bipush (v := 39) dX8_doubleKind_47 (by decide) ?_
            exact r_iret dX8_doubleKind_49 rfl rfl (by simp_all [cDk]) rfl
          · refine r_iload_n dX8_doubleKind_36 rfl ?_
            refine r_bipush (v := 61) dX8_doubleKind_37 (by decide) ?_
            refine r_ic_ne 47 dX8_doubleKind_39 (by decide) (fun c39 => ?_) (fun c39 => ?_)
            · refine r_bipush (v := 39) dX8_doubleKind_47 (by decide) ?_
              exact r_iret dX8_doubleKind_49 rfl rfl (by simp_all [cDk]) rfl
            · refine r_bipush (v := 27) dX8_doubleKind_42 (by decide) ?_
              refine r_goto 49 dX8_doubleKind_44 (by decide) ?_
              exact r_iret dX8_doubleKind_49 rfl rfl (by simp_all [cDk]) rfl
        · refine r_bipush (v := 26) dX8_doubleKind_27 (by decide) ?_
          exact r_iret dX8_doubleKind_29 rfl rfl (by simp_all [cDk]) rfl
    · refine r_bipush (v := 24) dX8_doubleKind_12 (by decide) ?_
      exact r_iret dX8_doubleKind_14 rfl rfl (by simp_all [cDk]) rfl
def cSk (x : Int32) : Int32 := if x = 40 then 33 else if x = 41 then 34 else if x = 42 then 31 else if x = 43 then 29 else if x = 45 then 30 else if x = 47 then 32 else if x = 59 then 35 else if x = 60 then 23 else if x = 61 then 25 else if x = 62 then 28 else 39
theorem tsout_40_62 {k : Int32} (q0 : ¬ k = 40) (q1 : ¬ k = 41) (q2 : ¬ k = 42) (q3 : ¬ k = 43) (q4 : ¬ k = 44) (q5 : ¬ k = 45) (q6 : ¬ k = 46) (q7 : ¬ k = 47) (q8 : ¬ k = 48) (q9 : ¬ k = 49) (q10 : ¬ k = 50) (q11 : ¬ k = 51) (q12 : ¬ k = 52) (q13 : ¬ k = 53) (q14 : ¬ k = 54) (q15 : ¬ k = 55) (q16 : ¬ k = 56) (q17 : ¬ k = 57) (q18 : ¬ k = 58) (q19 : ¬ k = 59) (q20 : ¬ k = 60) (q21 : ¬ k = 61) (q22 : ¬ k = 62) : k.toInt < 40 ∨ 62 < k.toInt := by
  rcases Int.lt_or_le k.toInt 40 with h | h
  · exact Or.inl h
  · right
    apply Classical.byContradiction
    intro h2
    have h3 : k.toInt = 40 ∨ k.toInt = 41 ∨ k.toInt = 42 ∨ k.toInt = 43 ∨ k.toInt = 44 ∨ k.toInt = 45 ∨ k.toInt = 46 ∨ k.toInt = 47 ∨ k.toInt = 48 ∨ k.toInt = 49 ∨ k.toInt = 50 ∨ k.toInt = 51 ∨ k.toInt = 52 ∨ k.toInt = 53 ∨ k.toInt = 54 ∨ k.toInt = 55 ∨ k.toInt = 56 ∨ k.toInt = 57 ∨ k.toInt = 58 ∨ k.toInt = 59 ∨ k.toInt = 60 ∨ k.toInt = 61 ∨ k.toInt = 62 := by omega
    rcases h3 with h3 | h3 | h3 | h3 | h3 | h3 | h3 | h3 | h3 | h3 | h3 | h3 | h3 | h3 | h3 | h3 | h3 | h3 | h3 | h3 | h3 | h3 | h3
    · exact q0 (Int32.toInt_inj.mp (h3.trans (by decide)))
    · exact q1 (Int32.toInt_inj.mp (h3.trans (by decide)))
    · exact q2 (Int32.toInt_inj.mp (h3.trans (by decide)))
    · exact q3 (Int32.toInt_inj.mp (h3.trans (by decide)))
    · exact q4 (Int32.toInt_inj.mp (h3.trans (by decide)))
    · exact q5 (Int32.toInt_inj.mp (h3.trans (by decide)))
    · exact q6 (Int32.toInt_inj.mp (h3.trans (by decide)))
    · exact q7 (Int32.toInt_inj.mp (h3.trans (by decide)))
    · exact q8 (Int32.toInt_inj.mp (h3.trans (by decide)))
    · exact q9 (Int32.toInt_inj.mp (h3.trans (by decide)))
    · exact q10 (Int32.toInt_inj.mp (h3.trans (by decide)))
    · exact q11 (Int32.toInt_inj.mp (h3.trans (by decide)))
    · exact q12 (Int32.toInt_inj.mp (h3.trans (by decide)))
    · exact q13 (Int32.toInt_inj.mp (h3.trans (by decide)))
    · exact q14 (Int32.toInt_inj.mp (h3.trans (by decide)))
    · exact q15 (Int32.toInt_inj.mp (h3.trans (by decide)))
    · exact q16 (Int32.toInt_inj.mp (h3.trans (by decide)))
    · exact q17 (Int32.toInt_inj.mp (h3.trans (by decide)))
    · exact q18 (Int32.toInt_inj.mp (h3.trans (by decide)))
    · exact q19 (Int32.toInt_inj.mp (h3.trans (by decide)))
    · exact q20 (Int32.toInt_inj.mp (h3.trans (by decide)))
    · exact q21 (Int32.toInt_inj.mp (h3.trans (by decide)))
    · exact q22 (Int32.toInt_inj.mp (h3.trans (by decide)))
set_option maxHeartbeats 1000000 in
theorem k_singleKind {E : xCl} {ex : Bool} {I : Nat → Nat → Int32} {J : Nat → Nat → Int64} {P : Nat → Nat → Nat} (x : Int32) (d : Nat) : xEx E ex (d + 1) yX8_singleKind [.int x] (SH, I, J, P) (some (.int (cSk x))) (SH, I, J, P) := by
  refine x_enter cqX8_singleKind [some (.int x)] rfl (by simp [lg_sl, Value.category]) ?_
  refine r_iload_n dX8_singleKind_0 rfl ?_
  by_cases q1_0 : x = 40
  · refine r_tsI 129 dX8_singleKind_1 (by rw [q1_0]; decide) (by rw [q1_0]; decide) (off := 128) (by rw [q1_0]; rfl) (by decide) ?_
    refine r_bipush (v := 33) dX8_singleKind_129 (by decide) ?_
    exact r_iret dX8_singleKind_131 rfl rfl (congrArg (fun z => some (Value.int z)) (show cSk x = (33 : Int32) by rw [q1_0]; decide +kernel)) rfl
  by_cases q1_1 : x = 41
  · refine r_tsI 132 dX8_singleKind_1 (by rw [q1_1]; decide) (by rw [q1_1]; decide) (off := 131) (by rw [q1_1]; rfl) (by decide) ?_
    refine r_bipush (v := 34) dX8_singleKind_132 (by decide) ?_
    exact r_iret dX8_singleKind_134 rfl rfl (congrArg (fun z => some (Value.int z)) (show cSk x = (34 : Int32) by rw [q1_1]; decide +kernel)) rfl
  by_cases q1_2 : x = 42
  · refine r_tsI 123 dX8_singleKind_1 (by rw [q1_2]; decide) (by rw [q1_2]; decide) (off := 122) (by rw [q1_2]; rfl) (by decide) ?_
    refine r_bipush (v := 31) dX8_singleKind_123 (by decide) ?_
    exact r_iret dX8_singleKind_125 rfl rfl (congrArg (fun z => some (Value.int z)) (show cSk x = (31 : Int32) by rw [q1_2]; decide +kernel)) rfl
  by_cases q1_3 : x = 43
  · refine r_tsI 117 dX8_singleKind_1 (by rw [q1_3]; decide) (by rw [q1_3]; decide) (off := 116) (by rw [q1_3]; rfl) (by decide) ?_
    refine r_bipush (v := 29) dX8_singleKind_117 (by decide) ?_
    exact r_iret dX8_singleKind_119 rfl rfl (congrArg (fun z => some (Value.int z)) (show cSk x = (29 : Int32) by rw [q1_3]; decide +kernel)) rfl
  by_cases q1_4 : x = 44
  · refine r_tsI 138 dX8_singleKind_1 (by rw [q1_4]; decide) (by rw [q1_4]; decide) (off := 137) (by rw [q1_4]; rfl) (by decide) ?_
    refine r_bipush (v := 39) dX8_singleKind_138 (by decide) ?_
    exact r_iret dX8_singleKind_140 rfl rfl (congrArg (fun z => some (Value.int z)) (show cSk x = (39 : Int32) by rw [q1_4]; decide +kernel)) rfl
  by_cases q1_5 : x = 45
  · refine r_tsI 120 dX8_singleKind_1 (by rw [q1_5]; decide) (by rw [q1_5]; decide) (off := 119) (by rw [q1_5]; rfl) (by decide) ?_
    refine r_bipush (v := 30) dX8_singleKind_120 (by decide) ?_
    exact r_iret dX8_singleKind_122 rfl rfl (congrArg (fun z => some (Value.int z)) (show cSk x = (30 : Int32) by rw [q1_5]; decide +kernel)) rfl
  by_cases q1_6 : x = 46
  · refine r_tsI 138 dX8_singleKind_1 (by rw [q1_6]; decide) (by rw [q1_6]; decide) (off := 137) (by rw [q1_6]; rfl) (by decide) ?_
    refine r_bipush (v := 39) dX8_singleKind_138 (by decide) ?_
    exact r_iret dX8_singleKind_140 rfl rfl (congrArg (fun z => some (Value.int z)) (show cSk x = (39 : Int32) by rw [q1_6]; decide +kernel)) rfl
  by_cases q1_7 : x = 47
  · refine r_tsI 126 dX8_singleKind_1 (by rw [q1_7]; decide) (by rw [q1_7]; decide) (off := 125) (by rw [q1_7]; rfl) (by decide) ?_
    refine r_bipush (v := 32) dX8_singleKind_126 (by decide) ?_
    exact r_iret dX8_singleKind_128 rfl rfl (congrArg (fun z => some (Value.int z)) (show cSk x = (32 : Int32) by rw [q1_7]; decide +kernel)) rfl
  by_cases q1_8 : x = 48
  · refine r_tsI 138 dX8_singleKind_1 (by rw [q1_8]; decide) (by rw [q1_8]; decide) (off := 137) (by rw [q1_8]; rfl) (by decide) ?_
    refine r_bipush (v := 39) dX8_singleKind_138 (by decide) ?_
    exact r_iret dX8_singleKind_140 rfl rfl (congrArg (fun z => some (Value.int z)) (show cSk x = (39 : Int32) by rw [q1_8]; decide +kernel)) rfl
  by_cases q1_9 : x = 49
  · refine r_tsI 138 dX8_singleKind_1 (by rw [q1_9]; decide) (by rw [q1_9]; decide) (off := 137) (by rw [q1_9]; rfl) (by decide) ?_
    refine r_bipush (v := 39) dX8_singleKind_138 (by decide) ?_
    exact r_iret dX8_singleKind_140 rfl rfl (congrArg (fun z => some (Value.int z)) (show cSk x = (39 : Int32) by rw [q1_9]; decide +kernel)) rfl
  by_cases q1_10 : x = 50
  · refine r_tsI 138 dX8_singleKind_1 (by rw [q1_10]; decide) (by rw [q1_10]; decide) (off := 137) (by rw [q1_10]; rfl) (by decide) ?_
    refine r_bipush (v := 39) dX8_singleKind_138 (by decide) ?_
    exact r_iret dX8_singleKind_140 rfl rfl (congrArg (fun z => some (Value.int z)) (show cSk x = (39 : Int32) by rw [q1_10]; decide +kernel)) rfl
  by_cases q1_11 : x = 51
  · refine r_tsI 138 dX8_singleKind_1 (by rw [q1_11]; decide) (by rw [q1_11]; decide) (off := 137) (by rw [q1_11]; rfl) (by decide) ?_
    refine r_bipush (v := 39) dX8_singleKind_138 (by decide) ?_
    exact r_iret dX8_singleKind_140 rfl rfl (congrArg (fun z => some (Value.int z)) (show cSk x = (39 : Int32) by rw [q1_11]; decide +kernel)) rfl
  by_cases q1_12 : x = 52
  · refine r_tsI 138 dX8_singleKind_1 (by rw [q1_12]; decide) (by rw [q1_12]; decide) (off := 137) (by rw [q1_12]; rfl) (by decide) ?_
    refine r_bipush (v := 39) dX8_singleKind_138 (by decide) ?_
    exact r_iret dX8_singleKind_140 rfl rfl (congrArg (fun z => some (Value.int z)) (show cSk x = (39 : Int32) by rw [q1_12]; decide +kernel)) rfl
  by_cases q1_13 : x = 53
  · refine r_tsI 138 dX8_singleKind_1 (by rw [q1_13]; decide) (by rw [q1_13]; decide) (off := 137) (by rw [q1_13]; rfl) (by decide) ?_
    refine r_bipush (v := 39) dX8_singleKind_138 (by decide) ?_
    exact r_iret dX8_singleKind_140 rfl rfl (congrArg (fun z => some (Value.int z)) (show cSk x = (39 : Int32) by rw [q1_13]; decide +kernel)) rfl
  by_cases q1_14 : x = 54
  · refine r_tsI 138 dX8_singleKind_1 (by rw [q1_14]; decide) (by rw [q1_14]; decide) (off := 137) (by rw [q1_14]; rfl) (by decide) ?_
    refine r_bipush (v := 39) dX8_singleKind_138 (by decide) ?_
    exact r_iret dX8_singleKind_140 rfl rfl (congrArg (fun z => some (Value.int z)) (show cSk x = (39 : Int32) by rw [q1_14]; decide +kernel)) rfl
  by_cases q1_15 : x = 55
  · refine r_tsI 138 dX8_singleKind_1 (by rw [q1_15]; decide) (by rw [q1_15]; decide) (off := 137) (by rw [q1_15]; rfl) (by decide) ?_
    refine r_bipush (v := 39) dX8_singleKind_138 (by decide) ?_
    exact r_iret dX8_singleKind_140 rfl rfl (congrArg (fun z => some (Value.int z)) (show cSk x = (39 : Int32) by rw [q1_15]; decide +kernel)) rfl
  by_cases q1_16 : x = 56
  · refine r_tsI 138 dX8_singleKind_1 (by rw [q1_16]; decide) (by rw [q1_16]; decide) (off := 137) (by rw [q1_16]; rfl) (by decide) ?_
    refine r_bipush (v := 39) dX8_singleKind_138 (by decide) ?_
    exact r_iret dX8_singleKind_140 rfl rfl (congrArg (fun z => some (Value.int z)) (show cSk x = (39 : Int32) by rw [q1_16]; decide +kernel)) rfl
  by_cases q1_17 : x = 57
  · refine r_tsI 138 dX8_singleKind_1 (by rw [q1_17]; decide) (by rw [q1_17]; decide) (off := 137) (by rw [q1_17]; rfl) (by decide) ?_
    refine r_bipush (v := 39) dX8_singleKind_138 (by decide) ?_
    exact r_iret dX8_singleKind_140 rfl rfl (congrArg (fun z => some (Value.int z)) (show cSk x = (39 : Int32) by rw [q1_17]; decide +kernel)) rfl
  by_cases q1_18 : x = 58
  · refine r_tsI 138 dX8_singleKind_1 (by rw [q1_18]; decide) (by rw [q1_18]; decide) (off := 137) (by rw [q1_18]; rfl) (by decide) ?_
    refine r_bipush (v := 39) dX8_singleKind_138 (by decide) ?_
    exact r_iret dX8_singleKind_140 rfl rfl (congrArg (fun z => some (Value.int z)) (show cSk x = (39 : Int32) by rw [q1_18]; decide +kernel)) rfl
  by_cases q1_19 : x = 59
  · refine r_tsI 135 dX8_singleKind_1 (by rw [q1_19]; decide) (by rw [q1_19]; decide) (off := 134) (by rw [q1_19]; rfl) (by decide) ?_
    refine r_bipush (v := 35) dX8_singleKind_135 (by decide) ?_
    exact r_iret dX8_singleKind_137 rfl rfl (congrArg (fun z => some (Value.int z)) (show cSk x = (35 : Int32) by rw [q1_19]; decide +kernel)) rfl
  by_cases q1_20 : x = 60
  · refine r_tsI 108 dX8_singleKind_1 (by rw [q1_20]; decide) (by rw [q1_20]; decide) (off := 107) (by rw [q1_20]; rfl) (by decide) ?_
    refine r_bipush (v := 23) dX8_singleKind_108 (by decide) ?_
    exact r_iret dX8_singleKind_110 rfl rfl (congrArg (fun z => some (Value.int z)) (show cSk x = (23 : Int32) by rw [q1_20]; decide +kernel)) rfl
  by_cases q1_21 : x = 61
  · refine r_tsI 111 dX8_singleKind_1 (by rw [q1_21]; decide) (by rw [q1_21]; decide) (off := 110) (by rw [q1_21]; rfl) (by decide) ?_
    refine r_bipush (v := 25) dX8_singleKind_111 (by decide) ?_
    exact r_iret dX8_singleKind_113 rfl rfl (congrArg (fun z => some (Value.int z)) (show cSk x = (25 : Int32) by rw [q1_21]; decide +kernel)) rfl
  by_cases q1_22 : x = 62
  · refine r_tsI 114 dX8_singleKind_1 (by rw [q1_22]; decide) (by rw [q1_22]; decide) (off := 113) (by rw [q1_22]; rfl) (by decide) ?_
    refine r_bipush (v := 28) dX8_singleKind_114 (by decide) ?_
    exact r_iret dX8_singleKind_116 rfl rfl (congrArg (fun z => some (Value.int z)) (show cSk x = (28 : Int32) by rw [q1_22]; decide +kernel)) rfl
  refine r_tsO 138 dX8_singleKind_1 (tsout_40_62 q1_0 q1_1 q1_2 q1_3 q1_4 q1_5 q1_6 q1_7 q1_8 q1_9 q1_10 q1_11 q1_12 q1_13 q1_14 q1_15 q1_16 q1_17 q1_18 q1_19 q1_20 q1_21 q1_22) (by decide) ?_
  refine r_bipush (v := 39) dX8_singleKind_138 (by decide) ?_
  exact r_iret dX8_singleKind_140 rfl rfl (by simp [cSk, q1_0, q1_1, q1_2, q1_3, q1_5, q1_7, q1_19, q1_20, q1_21, q1_22]) rfl
def cMn (z : Int32) : Int32 := if z < 1000000 then z else 1000000
def cNu (T : Nat → Int32) : Nat → Nat → Int32 → Nat × Int32
  | 0, i, v => (i, v)
  | c + 1, i, v => if cDg (T i) then cNu T c (i + 1) (cMn (v * 10 + T i - 48)) else (i, v)
set_option maxHeartbeats 1000000 in
theorem l_readNumber {E : xCl} {ex : Bool} {I : Nat → Nat → Int32} {J : Nat → Nat → Int64} {P : Nat → Nat → Nat} (hP : Pok P) {s : Nat} (hs : s ≤ 700) (p : Int32) (d : Nat) : ∀ c i v, i + c = s → xR (xEx E ex (d + 1)) ex none yX8_readNumber cX8_readNumber none 11 [some (.ref 28)] [] (SH, wK I (nI s) (nI i) p 36 v, J, P) (xEq none (SH, wK I (nI s) (nI (cNu (I 1) c i v).1) p 36 (cNu (I 1) c i v).2, J, P)) := by
  intro c
  induction c with
  | zero =>
    intro i v hi
    refine r_aload_n dX8_readNumber_11 rfl ?_
    refine r_getIv dX8_readNumber_12 flX8_28 sh_28 (by decide) rfl (wK_2 _ _ _ _ _ _) ?_
    refine r_aload_n dX8_readNumber_15 rfl ?_
    refine r_getIv dX8_readNumber_16 flX8_24 sh_28 (by decide) rfl (wK_1 _ _ _ _ _ _) ?_
    refine r_ic_ge 79 dX8_readNumber_19 (by decide) (fun c19 => ?_) (fun c19 => ?_)
    · exact r_vret dX8_readNumber_79 rfl rfl rfl
    · exact absurd (nI_le (by omega) (by omega)) c19
  | succ c ih =>
    intro i v hi
    refine r_aload_n dX8_readNumber_11 rfl ?_
    refine r_getIv dX8_readNumber_12 flX8_28 sh_28 (by decide) rfl (wK_2 _ _ _ _ _ _) ?_
    refine r_aload_n dX8_readNumber_15 rfl ?_
    refine r_getIv dX8_readNumber_16 flX8_24 sh_28 (by decide) rfl (wK_1 _ _ _ _ _ _) ?_
    refine r_ic_ge 79 dX8_readNumber_19 (by decide) (fun c19 => ?_) (fun c19 => ?_)
    · exact absurd c19 (nI_ge (a := i) (b := s) (by omega) (by omega))
    · refine r_aload_n dX8_readNumber_22 rfl ?_
      refine r_getR dX8_readNumber_23 flX8_9 sh_28 (by decide) rfl (pf_28_0 hP) ?_
      refine r_aload_n dX8_readNumber_26 rfl ?_
      refine r_getIv dX8_readNumber_27 flX8_28 sh_28 (by decide) rfl (wK_2 _ _ _ _ _ _) ?_
      refine r_balv dX8_readNumber_30 sh_1 (vp_in_nI (n := i) (by omega) (by decide)) ((wK_o _ _ _ _ _ _ (by decide) _).trans (congrArg (I 1) (nI_clamp (n := i) (by omega)))) ?_
      by_cases h31 : cDg (I 1 i)
      · refine r_cS1i dX8_readNumber_31 slX8_47 (Nat.le_of_ble_eq_true rfl) (k_cisDigit_t h31 d) ?_
        refine r_if_eq 79 dX8_readNumber_34 (by decide) (fun c34 => ?_) (fun c34 => ?_)
        · exact absurd c34 (by decide)
        · refine r_aload_n dX8_readNumber_37 rfl ?_
          refine r_ldc dX8_readNumber_38 kcX8_74 ?_
          refine r_aload_n dX8_readNumber_40 rfl ?_
          refine r_getIv dX8_readNumber_41 flX8_56 sh_28 (by decide) rfl (wK_5 _ _ _ _ _ _) ?_
          refine r_bipush (v := 10) dX8_readNumber_44 (by decide) ?_
          refine r_imul dX8_readNumber_46 ?_
          refine r_aload_n dX8_readNumber_47 rfl ?_
          refine r_getR dX8_readNumber_48 flX8_9 sh_28 (by decide) rfl (pf_28_0 hP) ?_
          refine r_aload_n dX8_readNumber_51 rfl ?_
          refine r_getIv dX8_readNumber_52 flX8_28 sh_28 (by decide) rfl (wK_2 _ _ _ _ _ _) ?_
          refine r_balv dX8_readNumber_55 sh_1 (vp_in_nI (n := i) (by omega) (by decide)) ((wK_o _ _ _ _ _ _ (by decide) _).trans (congrArg (I 1) (nI_clamp (n := i) (by omega)))) ?_
          refine r_iadd dX8_readNumber_56 ?_
          refine r_bipush (v := 48) dX8_readNumber_57 (by decide) ?_
          refine r_isub dX8_readNumber_59 ?_
          refine r_mmin dX8_readNumber_60 hlX8_15 (Nat.le_of_ble_eq_true rfl) ?_
          refine r_putIv dX8_readNumber_63 flX8_56 ⟨_, _, _, rfl, Or.inl rfl⟩ sh_28 (by decide) rfl rfl rfl (wK_x5 _ _ _ _ _ _ _) ?_
          refine r_aload_n dX8_readNumber_66 rfl ?_
          refine r_dup dX8_readNumber_67 rfl ?_
          refine r_getIv dX8_readNumber_68 flX8_28 sh_28 (by decide) rfl (wK_2 _ _ _ _ _ _) ?_
          refine r_iconst (v := 1) dX8_readNumber_71 (by decide) ?_
          refine r_iadd dX8_readNumber_72 ?_
          refine r_putIv dX8_readNumber_73 flX8_28 ⟨_, _, _, rfl, Or.inl rfl⟩ sh_28 (by decide) rfl rfl rfl (wK_x2 _ _ _ _ _ _ _) ?_
          refine r_goto 11 dX8_readNumber_76 (by decide) ?_
          rw [nI_1, cNu, if_pos h31]; exact ih (i + 1) _ (by omega)
      · refine r_cS1i dX8_readNumber_31 slX8_47 (Nat.le_of_ble_eq_true rfl) (k_cisDigit_f h31 d) ?_
        refine r_if_eq 79 dX8_readNumber_34 (by decide) (fun c34 => ?_) (fun c34 => ?_)
        · rw [cNu, if_neg h31]; exact r_vret dX8_readNumber_79 rfl rfl rfl
        · exact absurd c34 (by decide)
set_option maxHeartbeats 1000000 in
theorem k_readNumber {E : xCl} {ex : Bool} {I : Nat → Nat → Int32} {J : Nat → Nat → Int64} {P : Nat → Nat → Nat} (hP : Pok P) {s : Nat} (hs : s ≤ 700) {i : Nat} (hi : i < s) (p k v : Int32) (d : Nat) : xEx E ex (d + 2) yX8_readNumber [.ref 28] (SH, wK I (nI s) (nI i) p k v, J, P) none (SH, wK I (nI s) (nI (cNu (I 1) (s - i) i 0).1) p 36 (cNu (I 1) (s - i) i 0).2, J, P) := by
  refine x_enter cqX8_readNumber [some (.ref 28)] rfl (by simp [lg_sl, Value.category]) ?_
  refine r_aload_n dX8_readNumber_0 rfl ?_
  refine r_bipush (v := 36) dX8_readNumber_1 (by decide) ?_
  refine r_putIv dX8_readNumber_3 flX8_37 ⟨_, _, _, rfl, Or.inl rfl⟩ sh_28 (by decide) rfl rfl rfl (wK_x4 _ _ _ _ _ _ _) ?_
  refine r_aload_n dX8_readNumber_6 rfl ?_
  refine r_iconst (v := 0) dX8_readNumber_7 (by decide) ?_
  refine r_putIv dX8_readNumber_8 flX8_56 ⟨_, _, _, rfl, Or.inl rfl⟩ sh_28 (by decide) rfl rfl rfl (wK_x5 _ _ _ _ _ _ _) ?_
  exact l_readNumber hP hs p d (s - i) i 0 (by omega)
def cBh (T : Nat → Int32) (s i : Nat) : Int32 := if i + 1 < s then T (i + 1) else 0
def cSi (T : Nat → Int32) (s i : Nat) : Nat × Int32 := if cDk (T i) (cBh T s i) = 39 then (i + 1, cSk (T i)) else (i + 2, cDk (T i) (cBh T s i))
set_option maxHeartbeats 1000000 in
theorem k_readSign {E : xCl} {ex : Bool} {I : Nat → Nat → Int32} {J : Nat → Nat → Int64} {P : Nat → Nat → Nat} (hP : Pok P) {s : Nat} (hs : s ≤ 700) {i : Nat} (hi : i < s) (p k v : Int32) (d : Nat) : xEx E ex (d + 2) yX8_readSign [.ref 28] (SH, wK I (nI s) (nI i) p k v, J, P) none (SH, wK I (nI s) (nI (cSi (I 1) s i).1) p (cSi (I 1) s i).2 v, J, P) := by
  refine x_enter cqX8_readSign [some (.ref 28), none, none] rfl (by simp [lg_sl, Value.category]) ?_
  refine r_aload_n dX8_readSign_0 rfl ?_
  refine r_getR dX8_readSign_1 flX8_9 sh_28 (by decide) rfl (pf_28_0 hP) ?_
  refine r_aload_n dX8_readSign_4 rfl ?_
  refine r_getIv dX8_readSign_5 flX8_28 sh_28 (by decide) rfl (wK_2 _ _ _ _ _ _) ?_
  refine r_balv dX8_readSign_8 sh_1 (vp_in_nI (n := i) (by omega) (by decide)) ((wK_o _ _ _ _ _ _ (by decide) _).trans (congrArg (I 1) (nI_clamp (n := i) (by omega)))) ?_
  refine r_istore_n1 dX8_readSign_9 rfl ?_
  refine r_aload_n dX8_readSign_10 rfl ?_
  refine r_dup dX8_readSign_11 rfl ?_
  refine r_getIv dX8_readSign_12 flX8_28 sh_28 (by decide) rfl (wK_2 _ _ _ _ _ _) ?_
  refine r_iconst (v := 1) dX8_readSign_15 (by decide) ?_
  refine r_iadd dX8_readSign_16 ?_
  refine r_putIv dX8_readSign_17 flX8_28 ⟨_, _, _, rfl, Or.inl rfl⟩ sh_28 (by decide) rfl rfl rfl (wK_x2 _ _ _ _ _ _ _) ?_
  rw [nI_1]
  refine r_aload_n dX8_readSign_20 rfl ?_
  refine r_getIv dX8_readSign_21 flX8_28 sh_28 (by decide) rfl (wK_2 _ _ _ _ _ _) ?_
  refine r_aload_n dX8_readSign_24 rfl ?_
  refine r_getIv dX8_readSign_25 flX8_24 sh_28 (by decide) rfl (wK_1 _ _ _ _ _ _) ?_
  refine r_ic_ge 43 dX8_readSign_28 (by decide) (fun c28 => ?_) (fun c28 => ?_)
  · refine r_iconst (v := 0) dX8_readSign_43 (by decide) ?_
    have hB : 0 = cBh (I 1) s i := by rw [cBh, if_neg (fun z => absurd c28 (nI_ge z (by omega)))]
    rw [hB]
    refine r_istore_n2 dX8_readSign_44 rfl ?_
    refine r_aload_n dX8_readSign_45 rfl ?_
    refine r_iload_n dX8_readSign_46 rfl ?_
    refine r_iload_n dX8_readSign_47 rfl ?_
    refine r_cS2i dX8_readSign_48 slX8_75 (Nat.le_of_ble_eq_true rfl) (k_doubleKind _ _ d) ?_
    refine r_putIv dX8_readSign_51 flX8_37 ⟨_, _, _, rfl, Or.inl rfl⟩ sh_28 (by decide) rfl rfl rfl (wK_x4 _ _ _ _ _ _ _) ?_
    refine r_aload_n dX8_readSign_54 rfl ?_
    refine r_getIv dX8_readSign_55 flX8_37 sh_28 (by decide) rfl (wK_4 _ _ _ _ _ _) ?_
    refine r_bipush (v := 39) dX8_readSign_58 (by decide) ?_
    refine r_ic_ne 74 dX8_readSign_60 (by decide) (fun c60 => ?_) (fun c60 => ?_)
    · refine r_aload_n dX8_readSign_74 rfl ?_
      refine r_dup dX8_readSign_75 rfl ?_
      refine r_getIv dX8_readSign_76 flX8_28 sh_28 (by decide) rfl (wK_2 _ _ _ _ _ _) ?_
      refine r_iconst (v := 1) dX8_readSign_79 (by decide) ?_
      refine r_iadd dX8_readSign_80 ?_
      refine r_putIv dX8_readSign_81 flX8_28 ⟨_, _, _, rfl, Or.inl rfl⟩ sh_28 (by decide) rfl rfl rfl (wK_x2 _ _ _ _ _ _ _) ?_
      rw [cSi, if_neg c60, nI_1]; exact r_vret dX8_readSign_84 rfl rfl rfl
    · refine r_aload_n dX8_readSign_63 rfl ?_
      refine r_iload_n dX8_readSign_64 rfl ?_
      refine r_cS1i dX8_readSign_65 slX8_78 (Nat.le_of_ble_eq_true rfl) (k_singleKind _ d) ?_
      refine r_putIv dX8_readSign_68 flX8_37 ⟨_, _, _, rfl, Or.inl rfl⟩ sh_28 (by decide) rfl rfl rfl (wK_x4 _ _ _ _ _ _ _) ?_
      refine r_goto 84 dX8_readSign_71 (by decide) ?_
      rw [cSi, if_pos c60]; exact r_vret dX8_readSign_84 rfl rfl rfl
  · refine r_aload_n dX8_readSign_31 rfl ?_
    refine r_getR dX8_readSign_32 flX8_9 sh_28 (by decide) rfl (pf_28_0 hP) ?_
    refine r_aload_n dX8_readSign_35 rfl ?_
    refine r_getIv dX8_readSign_36 flX8_28 sh_28 (by decide) rfl (wK_2 _ _ _ _ _ _) ?_
    refine r_balv dX8_readSign_39 sh_1 (vp_in_nI (n := i + 1) (Nat.lt_of_lt_of_le (Nat.lt_of_not_le (fun z => c28 (nI_le z (by omega)))) hs) (by decide)) ((wK_o _ _ _ _ _ _ (by decide) _).trans (congrArg (I 1) (nI_clamp (n := i + 1) (by omega)))) ?_
    refine r_goto 44 dX8_readSign_40 (by decide) ?_
    have hB : I 1 (i + 1) = cBh (I 1) s i := by rw [cBh, if_pos (Nat.lt_of_not_le (fun z => c28 (nI_le z (by omega))))]
    rw [hB]
    refine r_istore_n2 dX8_readSign_44 rfl ?_
    refine r_aload_n dX8_readSign_45 rfl ?_
    refine r_iload_n dX8_readSign_46 rfl ?_
    refine r_iload_n dX8_readSign_47 rfl ?_
    refine r_cS2i dX8_readSign_48 slX8_75 (Nat.le_of_ble_eq_true rfl) (k_doubleKind _ _ d) ?_
    refine r_putIv dX8_readSign_51 flX8_37 ⟨_, _, _, rfl, Or.inl rfl⟩ sh_28 (by decide) rfl rfl rfl (wK_x4 _ _ _ _ _ _ _) ?_
    refine r_aload_n dX8_readSign_54 rfl ?_
    refine r_getIv dX8_readSign_55 flX8_37 sh_28 (by decide) rfl (wK_4 _ _ _ _ _ _) ?_
    refine r_bipush (v := 39) dX8_readSign_58 (by decide) ?_
    refine r_ic_ne 74 dX8_readSign_60 (by decide) (fun c60 => ?_) (fun c60 => ?_)
    · refine r_aload_n dX8_readSign_74 rfl ?_
      refine r_dup dX8_readSign_75 rfl ?_
      refine r_getIv dX8_readSign_76 flX8_28 sh_28 (by decide) rfl (wK_2 _ _ _ _ _ _) ?_
      refine r_iconst (v := 1) dX8_readSign_79 (by decide) ?_
      refine r_iadd dX8_readSign_80 ?_
      refine r_putIv dX8_readSign_81 flX8_28 ⟨_, _, _, rfl, Or.inl rfl⟩ sh_28 (by decide) rfl rfl rfl (wK_x2 _ _ _ _ _ _ _) ?_
      rw [cSi, if_neg c60, nI_1]; exact r_vret dX8_readSign_84 rfl rfl rfl
    · refine r_aload_n dX8_readSign_63 rfl ?_
      refine r_iload_n dX8_readSign_64 rfl ?_
      refine r_cS1i dX8_readSign_65 slX8_78 (Nat.le_of_ble_eq_true rfl) (k_singleKind _ d) ?_
      refine r_putIv dX8_readSign_68 flX8_37 ⟨_, _, _, rfl, Or.inl rfl⟩ sh_28 (by decide) rfl rfl rfl (wK_x4 _ _ _ _ _ _ _) ?_
      refine r_goto 84 dX8_readSign_71 (by decide) ?_
      rw [cSi, if_pos c60]; exact r_vret dX8_readSign_84 rfl rfl rfl
