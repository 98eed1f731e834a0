/-! Laws: a law's E by a row of knots -/
section RW
variable {call : xCl} {ex : Bool} {X : Option (Nat × (Nat → Int32))} {y : MethodName} {cc : ByteArray} {ret : Option FieldType} {pc : Nat} {ls : List (Option Value)} {st : List Value} {Q : Option Value → xS → Prop} {sh : List (xK × Nat)} {I : Nat → Nat → Int32} {J : Nat → Nat → Int64} {P : Nat → Nat → Nat}
theorem r_lalv {i : Int32} {v : Int64} {a n : Nat} (hd : decode cc pc = .ok (.laload, 1)) (hs : sh[a]? = some (.inr 3, n)) (hi : vp_in i n) (hv : J a i.toNatClampNeg = v) (kk : xR call ex X y cc ret (pc + 1) ls (.long v :: st) (sh, I, J, P) Q) : xR call ex X y cc ret pc ls (.int i :: .ref a :: st) (sh, I, J, P) Q := by subst hv; exact r_lal hd hs hi kk
theorem r_lasv {i : Int32} {x : Int64} {a n : Nat} {J' : Nat → Nat → Int64} (hd : decode cc pc = .ok (.lastore, 1)) (hs : sh[a]? = some (.inr 3, n)) (hi : vp_in i n) (hv : xu J a i.toNatClampNeg x = J') (kk : xR call ex X y cc ret (pc + 1) ls st (sh, I, J', P) Q) : xR call ex X y cc ret pc ls (.long x :: .int i :: .ref a :: st) (sh, I, J, P) Q := by subst hv; exact r_las hd hs hi kk
end RW
def wPl (N : Nat → Int64) (c : Int32) : Int64 := if 10000 ≤ c then (if c - 10000 - 13 < 0 then -9223372036854775808 else if Int32.ofNat 7 ≤ c - 10000 - 13 then -9223372036854775808 else N (c - 10000 - 13).toNatClampNeg) else c.toInt64
/-- the largest number that a number may be multiplied by -/
def wMo (x : Int64) : Int64 := if x = 0 then 1000000000000 else 1000000000000 / (if x < 0 then -x else x)
theorem wMo_0 {x : Int64} (h : x = 0) : wMo x = 1000000000000 := by unfold wMo; rw [if_pos h]
theorem wMo_n {x : Int64} (h : ¬ x = 0) (h2 : x < 0) : wMo x = 1000000000000 / -x := by unfold wMo; rw [if_neg h, if_pos h2]
theorem wMo_p {x : Int64} (h : ¬ x = 0) (h2 : ¬ x < 0) : wMo x = 1000000000000 / x := by unfold wMo; rw [if_neg h, if_neg h2]
theorem ng_0 {x : Int64} (h : -x = 0) : x = 0 := by
  have : x = -(-x) := by simp
  rw [this, h]
  rfl
def wJo (k : Int32) (x z : Int64) : Int64 :=
  if k = 20 then (if ¬ x = 0 ∧ ¬ z = 0 then 1 else 0) else if k = 21 then (if ¬ x = 0 ∨ ¬ z = 0 then 1 else 0) else if k = 23 then (if x < z then 1 else 0) else if k = 24 then (if x ≤ z then 1 else 0) else
  if k = 25 then (if x = z then 1 else 0) else if k = 26 then (if x = z then 0 else 1) else if k = 27 then (if z ≤ x then 1 else 0) else if k = 28 then (if z < x then 1 else 0) else
  if k = 29 then x + z else if k = 30 then x - z else if k = 31 then (if wMo x < z ∨ z < -wMo x then -9223372036854775808 else x * z) else if k = 32 then (if z = 0 then -9223372036854775808 else x / z) else -9223372036854775808
def wCk (v : Int64) (l : List Int64) : Option (List Int64) := if 1000000000000 < v ∨ v < -1000000000000 then none else some (v :: l)
def wSt (N : Nat → Int64) (c : Int32) (l : List Int64) : Option (List Int64) :=
  if c - 10000 < 20 then (if l.length < 64 then wCk (wPl N c) l else none)
  else if c - 10000 = 22 then (match l with
    | x :: r => wCk (if x = 0 then 1 else 0) r
    | [] => none)
  else match l with
    | z :: x :: r => wCk (wJo (c - 10000) x z) r
    | _ => none
def wRun (kn : Nat → Int32) (N : Nat → Int64) : Nat → Nat → List Int64 → Int64
  | 0, _, l => match l with
    | [x] => x
    | _ => -9223372036854775808
  | c + 1, p, l => match wSt N (kn p) l with
    | some l' => wRun kn N c (p + 1) l'
    | none => -9223372036854775808
/-- the stack of longs as a list, its top first -/
def stk (f : Nat → Int64) (l : List Int64) : Prop := ∀ q, q < l.length → f q = l.getD (l.length - 1 - q) 0
theorem stk_top {f : Nat → Int64} {x : Int64} {r : List Int64} (h : stk f (x :: r)) : f r.length = x := by
  have := h r.length (by simp)
  simpa using this
theorem stk_pop {f : Nat → Int64} {x : Int64} {r : List Int64} (h : stk f (x :: r)) : stk f r := by
  intro q hq
  have := h q (by simp; omega)
  rw [this]
  simp only [List.length_cons, Nat.add_sub_cancel]
  rw [show r.length - q = (r.length - 1 - q) + 1 by omega]
  rfl
theorem stk_push {J : Nat → Nat → Int64} {a : Nat} {r : List Int64} (v : Int64) (h : stk (J a) r) : stk (xu J a r.length v a) (v :: r) := by
  intro q hq
  simp only [List.length_cons] at hq
  simp only [xu, true_and, List.length_cons, Nat.add_sub_cancel]
  by_cases hqr : q = r.length
  · subst hqr
    simp
  · rw [if_neg hqr, h q (by omega), show r.length - q = (r.length - 1 - q) + 1 by omega]
    rfl
/-- one law of a tale: not told, or a stretch of the row of knots -/
def LwOk (I : Nat → Nat → Int32) (t k : Nat) : Prop := I (t + 9) k = -1 ∨ ∃ s e : Nat, I (t + 9) k = nI s ∧ I (t + 10) k = nI e ∧ s ≤ e ∧ e ≤ 64
/-- E of the law k of the tale t, with names N -/
def Lv (I : Nat → Nat → Int32) (t k : Nat) (N : Nat → Int64) : Int64 := if I (t + 9) k < 0 then -9223372036854775808 else wRun (I (t + 8)) N ((I (t + 10) k).toNatClampNeg - (I (t + 9) k).toNatClampNeg) (I (t + 9) k).toNatClampNeg []
def Jbut (J J' : Nat → Nat → Int64) (t : Nat) : Prop := ∀ a k, a ≠ t + 12 → J' a k = J a k

set_option maxHeartbeats 1000000 in
theorem k_plainValue {E : xCl} {ex : Bool} {I : Nat → Nat → Int32} {J : Nat → Nat → Int64} {P : Nat → Nat → Nat} (hP : Pok P) {t : Nat} (ht : t ∈ TL) (c : Int32) (d : Nat) : xEx E ex (d + 1) yX2_plainValue [.ref (t + 7), .int c] (SH, I, J, P) (some (.long (wPl (J (t + 11)) c))) (SH, I, J, P) := by
  refine x_enter cqX2_plainValue [some (.ref (t + 7)), some (.int c), none] rfl (by simp [lg_sl, Value.category]) ?_
  refine r_iload_n dX2_plainValue_0 rfl ?_
  refine r_sipush (v := 10000) dX2_plainValue_1 (by decide) ?_
  refine r_ic_ge 10 dX2_plainValue_4 (by decide) (fun c4 => ?_) (fun c4 => ?_)
  · refine r_iload_n dX2_plainValue_10 rfl ?_
    refine r_sipush (v := 10000) dX2_plainValue_11 (by decide) ?_
    refine r_isub dX2_plainValue_14 ?_
    refine r_bipush (v := 13) dX2_plainValue_15 (by decide) ?_
    refine r_isub dX2_plainValue_17 ?_
    refine r_istore_n2 dX2_plainValue_18 rfl ?_
    refine r_iload_n dX2_plainValue_19 rfl ?_
    refine r_if_lt 41 dX2_plainValue_20 (by decide) (fun c20 => ?_) (fun c20 => ?_)
    · refine r_ldc2_w dX2_plainValue_41 kcX2_37 ?_
      exact r_lret dX2_plainValue_44 rfl (by rw [wPl, if_pos c4, if_pos c20]) rfl
    · refine r_iload_n dX2_plainValue_23 rfl ?_
      refine r_aload_n dX2_plainValue_24 rfl ?_
      refine r_getR dX2_plainValue_25 flX2_23 (tl_w _ ht) (by decide) rfl (tw_p3 hP _ ht) ?_
      refine r_alen dX2_plainValue_28 (tw_a3 _ ht) ?_
      refine r_ic_ge 41 dX2_plainValue_29 (by decide) (fun c29 => ?_) (fun c29 => ?_)
      · refine r_ldc2_w dX2_plainValue_41 kcX2_37 ?_
        exact r_lret dX2_plainValue_44 rfl (by rw [wPl, if_pos c4, if_neg c20, if_pos c29]) rfl
      · refine r_aload_n dX2_plainValue_32 rfl ?_
        refine r_getR dX2_plainValue_33 flX2_23 (tl_w _ ht) (by decide) rfl (tw_p3 hP _ ht) ?_
        refine r_iload_n dX2_plainValue_36 rfl ?_
        refine r_lal dX2_plainValue_37 (tw_a3 _ ht) (vin c20 c29 (by decide)) ?_
        refine r_goto 44 dX2_plainValue_38 (by decide) ?_
        exact r_lret dX2_plainValue_44 rfl (by rw [wPl, if_pos c4, if_neg c20, if_neg c29]) rfl
  · refine r_iload_n dX2_plainValue_7 rfl ?_
    refine r_i2l dX2_plainValue_8 ?_
    exact r_lret dX2_plainValue_9 rfl (by rw [wPl, if_neg c4]) rfl
theorem tsout_20_32 {k : Int32} (q0 : ¬ k = 20) (q1 : ¬ k = 21) (q2 : ¬ k = 22) (q3 : ¬ k = 23) (q4 : ¬ k = 24) (q5 : ¬ k = 25) (q6 : ¬ k = 26) (q7 : ¬ k = 27) (q8 : ¬ k = 28) (q9 : ¬ k = 29) (q10 : ¬ k = 30) (q11 : ¬ k = 31) (q12 : ¬ k = 32) : k.toInt < 20 ∨ 32 < k.toInt := by
  rcases Int.lt_or_le k.toInt 20 with h | h
  · exact Or.inl h
  · right
    apply Classical.byContradiction
    intro h2
    have h3 : k.toInt = 20 ∨ k.toInt = 21 ∨ k.toInt = 22 ∨ k.toInt = 23 ∨ k.toInt = 24 ∨ k.toInt = 25 ∨ k.toInt = 26 ∨ k.toInt = 27 ∨ k.toInt = 28 ∨ k.toInt = 29 ∨ k.toInt = 30 ∨ k.toInt = 31 ∨ k.toInt = 32 := by omega
    rcases h3 with h3 | h3 | h3 | h3 | h3 | h3 | h3 | h3 | h3 | h3 | h3 | h3 | h3
    · exact q0 (Int32.toInt_inj.mp (h3.trans (by decide)))
    · exact q1 (Int32.toInt_inj.mp (h3.trans (by decide)))
    · exact q2 (Int32.toInt_inj.mp (h3.trans (by decide)))
    · exact q3 (Int32.toInt_inj.mp (h3.trans (by decide)))
    · exact q4 (Int32.toInt_inj.mp (h3.trans (by decide)))
    · exact q5 (Int32.toInt_inj.mp (h3.trans (by decide)))
    · exact q6 (Int32.toInt_inj.mp (h3.trans (by decide)))
    · exact q7 (Int32.toInt_inj.mp (h3.trans (by decide)))
    · exact q8 (Int32.toInt_inj.mp (h3.trans (by decide)))
    · exact q9 (Int32.toInt_inj.mp (h3.trans (by decide)))
    · exact q10 (Int32.toInt_inj.mp (h3.trans (by decide)))
    · exact q11 (Int32.toInt_inj.mp (h3.trans (by decide)))
    · exact q12 (Int32.toInt_inj.mp (h3.trans (by decide)))
set_option maxHeartbeats 1000000 in
theorem k_joined {E : xCl} {ex : Bool} {I : Nat → Nat → Int32} {J : Nat → Nat → Int64} {P : Nat → Nat → Nat} (k : Int32) (x z : Int64) (d : Nat) : xEx E ex (d + 1) yX2_joined [.int k, .long x, .long z] (SH, I, J, P) (some (.long (wJo k x z))) (SH, I, J, P) := by
  refine x_enter cqX2_joined [some (.int k), some (.long x), none, some (.long z), none, none, none] rfl (by simp [lg_sl, Value.category]) ?_
  refine r_iload_n dX2_joined_0 rfl ?_
  by_cases q1_0 : k = 20
  · refine r_tsI 68 dX2_joined_1 (by rw [q1_0]; decide) (by rw [q1_0]; decide) (off := 67) (by rw [q1_0]; rfl) (by decide) ?_
    refine r_lload_n dX2_joined_68 rfl ?_
    refine r_lconst (v := 0) dX2_joined_69 (by decide) ?_
    refine r_lcmp dX2_joined_70 ?_
    refine r_if_eq 84 dX2_joined_71 (by decide) (fun c71 => ?_) (fun c71 => ?_)
    · refine r_lconst (v := 0) dX2_joined_84 (by decide) ?_
      exact r_lret dX2_joined_85 rfl (by simp_all [wJo, lg_cmp_eq, lg_cmp_ge, lg_cmp_gt, lg_cmp_lt, lg_cmp_le]) rfl
    · refine r_lload_n dX2_joined_74 rfl ?_
      refine r_lconst (v := 0) dX2_joined_75 (by decide) ?_
      refine r_lcmp dX2_joined_76 ?_
      refine r_if_eq 84 dX2_joined_77 (by decide) (fun c77 => ?_) (fun c77 => ?_)
      · refine r_lconst (v := 0) dX2_joined_84 (by decide) ?_
        exact r_lret dX2_joined_85 rfl (by simp_all [wJo, lg_cmp_eq, lg_cmp_ge, lg_cmp_gt, lg_cmp_lt, lg_cmp_le]) rfl
      · refine r_lconst (v := 1) dX2_joined_80 (by decide) ?_
        refine r_goto 85 dX2_joined_81 (by decide) ?_
        exact r_lret dX2_joined_85 rfl (by simp_all [wJo, lg_cmp_eq, lg_cmp_ge, lg_cmp_gt, lg_cmp_lt, lg_cmp_le]) rfl
  by_cases q1_1 : k = 21
  · refine r_tsI 86 dX2_joined_1 (by rw [q1_1]; decide) (by rw [q1_1]; decide) (off := 85) (by rw [q1_1]; rfl) (by decide) ?_
    refine r_lload_n dX2_joined_86 rfl ?_
    refine r_lconst (v := 0) dX2_joined_87 (by decide) ?_
    refine r_lcmp dX2_joined_88 ?_
    refine r_if_ne 98 dX2_joined_89 (by decide) (fun c89 => ?_) (fun c89 => ?_)
    · refine r_lconst (v := 1) dX2_joined_98 (by decide) ?_
      refine r_goto 103 dX2_joined_99 (by decide) ?_
      exact r_lret dX2_joined_103 rfl (by simp_all [wJo, lg_cmp_eq, lg_cmp_ge, lg_cmp_gt, lg_cmp_lt, lg_cmp_le]) rfl
    · refine r_lload_n dX2_joined_92 rfl ?_
      refine r_lconst (v := 0) dX2_joined_93 (by decide) ?_
      refine r_lcmp dX2_joined_94 ?_
      refine r_if_eq 102 dX2_joined_95 (by decide) (fun c95 => ?_) (fun c95 => ?_)
      · refine r_lconst (v := 0) dX2_joined_102 (by decide) ?_
        exact r_lret dX2_joined_103 rfl (by simp_all [wJo, lg_cmp_eq, lg_cmp_ge, lg_cmp_gt, lg_cmp_lt, lg_cmp_le]) rfl
      · refine r_lconst (v := 1) dX2_joined_98 (by decide) ?_
        refine r_goto 103 dX2_joined_99 (by decide) ?_
        exact r_lret dX2_joined_103 rfl (by simp_all [wJo, lg_cmp_eq, lg_cmp_ge, lg_cmp_gt, lg_cmp_lt, lg_cmp_le]) rfl
  by_cases q1_2 : k = 22
  · refine r_tsI 255 dX2_joined_1 (by rw [q1_2]; decide) (by rw [q1_2]; decide) (off := 254) (by rw [q1_2]; rfl) (by decide) ?_
    refine r_ldc2_w dX2_joined_255 kcX2_37 ?_
    exact r_lret dX2_joined_258 rfl (by simp_all [wJo, lg_cmp_eq, lg_cmp_ge, lg_cmp_gt, lg_cmp_lt, lg_cmp_le]) rfl
  by_cases q1_3 : k = 23
  · refine r_tsI 104 dX2_joined_1 (by rw [q1_3]; decide) (by rw [q1_3]; decide) (off := 103) (by rw [q1_3]; rfl) (by decide) ?_
    refine r_lload_n dX2_joined_104 rfl ?_
    refine r_lload_n dX2_joined_105 rfl ?_
    refine r_lcmp dX2_joined_106 ?_
    refine r_if_ge 114 dX2_joined_107 (by decide) (fun c107 => ?_) (fun c107 => ?_)
    · refine r_lconst (v := 0) dX2_joined_114 (by decide) ?_
      exact r_lret dX2_joined_115 rfl (by simp_all [wJo, lg_cmp_eq, lg_cmp_ge, lg_cmp_gt, lg_cmp_lt, lg_cmp_le]) rfl
    · refine r_lconst (v := 1) dX2_joined_110 (by decide) ?_
      refine r_goto 115 dX2_joined_111 (by decide) ?_
      exact r_lret dX2_joined_115 rfl (by simp_all [wJo, lg_cmp_eq, lg_cmp_ge, lg_cmp_gt, lg_cmp_lt, lg_cmp_le]) rfl
  by_cases q1_4 : k = 24
  · refine r_tsI 116 dX2_joined_1 (by rw [q1_4]; decide) (by rw [q1_4]; decide) (off := 115) (by rw [q1_4]; rfl) (by decide) ?_
    refine r_lload_n dX2_joined_116 rfl ?_
    refine r_lload_n dX2_joined_117 rfl ?_
    refine r_lcmp dX2_joined_118 ?_
    refine r_if_gt 126 dX2_joined_119 (by decide) (fun c119 => ?_) (fun c119 => ?_)
    · refine r_lconst (v := 0) dX2_joined_126 (by decide) ?_
      exact r_lret dX2_joined_127 rfl (by simp_all [wJo, lg_cmp_eq, lg_cmp_ge, lg_cmp_gt, lg_cmp_lt, lg_cmp_le]) rfl
    · refine r_lconst (v := 1) dX2_joined_122 (by decide) ?_
      refine r_goto 127 dX2_joined_123 (by decide) ?_
      exact r_lret dX2_joined_127 rfl (by simp_all [wJo, lg_cmp_eq, lg_cmp_ge, lg_cmp_gt, lg_cmp_lt, lg_cmp_le]) rfl
  by_cases q1_5 : k = 25
  · refine r_tsI 128 dX2_joined_1 (by rw [q1_5]; decide) (by rw [q1_5]; decide) (off := 127) (by rw [q1_5]; rfl) (by decide) ?_
    refine r_lload_n dX2_joined_128 rfl ?_
    refine r_lload_n dX2_joined_129 rfl ?_
    refine r_lcmp dX2_joined_130 ?_
    refine r_if_ne 138 dX2_joined_131 (by decide) (fun c131 => ?_) (fun c131 => ?_)
    · refine r_lconst (v := 0) dX2_joined_138 (by decide) ?_
      exact r_lret dX2_joined_139 rfl (by simp_all [wJo, lg_cmp_eq, lg_cmp_ge, lg_cmp_gt, lg_cmp_lt, lg_cmp_le]) rfl
    · refine r_lconst (v := 1) dX2_joined_134 (by decide) ?_
      refine r_goto 139 dX2_joined_135 (by decide) ?_
      exact r_lret dX2_joined_139 rfl (by simp_all [wJo, lg_cmp_eq, lg_cmp_ge, lg_cmp_gt, lg_cmp_lt, lg_cmp_le]) rfl
  by_cases q1_6 : k = 26
  · refine r_tsI 140 dX2_joined_1 (by rw [q1_6]; decide) (by rw [q1_6]; decide) (off := 139) (by rw [q1_6]; rfl) (by decide) ?_
    refine r_lload_n dX2_joined_140 rfl ?_
    refine r_lload_n dX2_joined_141 rfl ?_
    refine r_lcmp dX2_joined_142 ?_
    refine r_if_eq 150 dX2_joined_143 (by decide) (fun c143 => ?_) (fun c143 => ?_)
    · refine r_lconst (v := 0) dX2_joined_150 (by decide) ?_
      exact r_lret dX2_joined_151 rfl (by simp_all [wJo, lg_cmp_eq, lg_cmp_ge, lg_cmp_gt, lg_cmp_lt, lg_cmp_le]) rfl
    · refine r_lconst (v := 1) dX2_joined_146 (by decide) ?_
      refine r_goto 151 dX2_joined_147 (by decide) ?_
      exact r_lret dX2_joined_151 rfl (by simp_all [wJo, lg_cmp_eq, lg_cmp_ge, lg_cmp_gt, lg_cmp_lt, lg_cmp_le]) rfl
  by_cases q1_7 : k = 27
  · refine r_tsI 152 dX2_joined_1 (by rw [q1_7]; decide) (by rw [q1_7]; decide) (off := 151) (by rw [q1_7]; rfl) (by decide) ?_
    refine r_lload_n dX2_joined_152 rfl ?_
    refine r_lload_n dX2_joined_153 rfl ?_
    refine r_lcmp dX2_joined_154 ?_
    refine r_if_lt 162 dX2_joined_155 (by decide) (fun c155 => ?_) (fun c155 => ?_)
    · refine r_lconst (v := 0) dX2_joined_162 (by decide) ?_
      exact r_lret dX2_joined_163 rfl (by simp_all [wJo, lg_cmp_eq, lg_cmp_ge, lg_cmp_gt, lg_cmp_lt, lg_cmp_le]) rfl
    · refine r_lconst (v := 1) dX2_joined_158 (by decide) ?_
      refine r_goto 163 dX2_joined_159 (by decide) ?_
      exact r_lret dX2_joined_163 rfl (by simp_all [wJo, lg_cmp_eq, lg_cmp_ge, lg_cmp_gt, lg_cmp_lt, lg_cmp_le]) rfl
  by_cases q1_8 : k = 28
  · refine r_tsI 164 dX2_joined_1 (by rw [q1_8]; decide) (by rw [q1_8]; decide) (off := 163) (by rw [q1_8]; rfl) (by decide) ?_
    refine r_lload_n dX2_joined_164 rfl ?_
    refine r_lload_n dX2_joined_165 rfl ?_
    refine r_lcmp dX2_joined_166 ?_
    refine r_if_le 174 dX2_joined_167 (by decide) (fun c167 => ?_) (fun c167 => ?_)
    · refine r_lconst (v := 0) dX2_joined_174 (by decide) ?_
      exact r_lret dX2_joined_175 rfl (by simp_all [wJo, lg_cmp_eq, lg_cmp_ge, lg_cmp_gt, lg_cmp_lt, lg_cmp_le]) rfl
    · refine r_lconst (v := 1) dX2_joined_170 (by decide) ?_
      refine r_goto 175 dX2_joined_171 (by decide) ?_
      exact r_lret dX2_joined_175 rfl (by simp_all [wJo, lg_cmp_eq, lg_cmp_ge, lg_cmp_gt, lg_cmp_lt, lg_cmp_le]) rfl
  by_cases q1_9 : k = 29
  · refine r_tsI 176 dX2_joined_1 (by rw [q1_9]; decide) (by rw [q1_9]; decide) (off := 175) (by rw [q1_9]; rfl) (by decide) ?_
    refine r_lload_n dX2_joined_176 rfl ?_
    refine r_lload_n dX2_joined_177 rfl ?_
    refine r_ladd dX2_joined_178 ?_
    exact r_lret dX2_joined_179 rfl (by simp_all [wJo, lg_cmp_eq, lg_cmp_ge, lg_cmp_gt, lg_cmp_lt, lg_cmp_le]) rfl
  by_cases q1_10 : k = 30
  · refine r_tsI 180 dX2_joined_1 (by rw [q1_10]; decide) (by rw [q1_10]; decide) (off := 179) (by rw [q1_10]; rfl) (by decide) ?_
    refine r_lload_n dX2_joined_180 rfl ?_
    refine r_lload_n dX2_joined_181 rfl ?_
    refine r_lsub dX2_joined_182 ?_
    exact r_lret dX2_joined_183 rfl (by simp_all [wJo, lg_cmp_eq, lg_cmp_ge, lg_cmp_gt, lg_cmp_lt, lg_cmp_le]) rfl
  by_cases q1_11 : k = 31
  · refine r_tsI 200 dX2_joined_1 (by rw [q1_11]; decide) (by rw [q1_11]; decide) (off := 199) (by rw [q1_11]; rfl) (by decide) ?_
    refine r_lload_n dX2_joined_200 rfl ?_
    refine r_lconst (v := 0) dX2_joined_201 (by decide) ?_
    refine r_lcmp dX2_joined_202 ?_
    refine r_if_ne 212 dX2_joined_203 (by decide) (fun c203 => ?_) (fun c203 => ?_)
    · refine r_ldc2_w dX2_joined_212 kcX2_49 ?_
      refine r_lload_n dX2_joined_215 rfl ?_
      refine r_lconst (v := 0) dX2_joined_216 (by decide) ?_
      refine r_lcmp dX2_joined_217 ?_
      refine r_if_ge 226 dX2_joined_218 (by decide) (fun c218 => ?_) (fun c218 => ?_)
      · refine r_lload_n dX2_joined_226 rfl ?_
        refine r_ldiv dX2_joined_227 (by first | exact (fun q => c203 ((lg_cmp_eq _ _).mpr q)) | exact (fun q => (fun q => c203 ((lg_cmp_eq _ _).mpr q)) (ng_0 q))) ?_
        refine r_lstore5 dX2_joined_228 rfl ?_
        refine r_lload_n dX2_joined_230 rfl ?_
        refine r_lload dX2_joined_231 rfl ?_
        refine r_lcmp dX2_joined_233 ?_
        refine r_if_gt 245 dX2_joined_234 (by decide) (fun c234 => ?_) (fun c234 => ?_)
        · refine r_ldc2_w dX2_joined_245 kcX2_37 ?_
          refine r_goto 254 dX2_joined_248 (by decide) ?_
          exact r_lret dX2_joined_254 rfl (by subst q1_11; rw [show wJo 31 x z = (if wMo x < z ∨ z < -wMo x then -9223372036854775808 else x * z) from rfl, wMo_p (fun q => c203 ((lg_cmp_eq _ _).mpr q)) (Int64.not_lt.mpr ((lg_cmp_ge _ _).mp c218)), if_pos (Or.inl ((lg_cmp_gt _ _).mp c234))]) rfl
        · refine r_lload_n dX2_joined_237 rfl ?_
          refine r_lload dX2_joined_238 rfl ?_
          refine r_lneg dX2_joined_240 ?_
          refine r_lcmp dX2_joined_241 ?_
          refine r_if_ge 251 dX2_joined_242 (by decide) (fun c242 => ?_) (fun c242 => ?_)
          · refine r_lload_n dX2_joined_251 rfl ?_
            refine r_lload_n dX2_joined_252 rfl ?_
            refine r_lmul dX2_joined_253 ?_
            exact r_lret dX2_joined_254 rfl (by subst q1_11; rw [show wJo 31 x z = (if wMo x < z ∨ z < -wMo x then -9223372036854775808 else x * z) from rfl, wMo_p (fun q => c203 ((lg_cmp_eq _ _).mpr q)) (Int64.not_lt.mpr ((lg_cmp_ge _ _).mp c218)), if_neg (fun q => q.elim (fun z => c234 ((lg_cmp_gt _ _).mpr z)) (Int64.not_lt.mpr ((lg_cmp_ge _ _).mp c242)))]) rfl
          · refine r_ldc2_w dX2_joined_245 kcX2_37 ?_
            refine r_goto 254 dX2_joined_248 (by decide) ?_
            exact r_lret dX2_joined_254 rfl (by subst q1_11; rw [show wJo 31 x z = (if wMo x < z ∨ z < -wMo x then -9223372036854775808 else x * z) from rfl, wMo_p (fun q => c203 ((lg_cmp_eq _ _).mpr q)) (Int64.not_lt.mpr ((lg_cmp_ge _ _).mp c218)), if_pos (Or.inr (Int64.not_le.mp (fun q => c242 ((lg_cmp_ge _ _).mpr q))))]) rfl
      · refine r_lload_n dX2_joined_221 rfl ?_
        refine r_lneg dX2_joined_222 ?_
        refine r_goto 227 dX2_joined_223 (by decide) ?_
        refine r_ldiv dX2_joined_227 (by first | exact (fun q => c203 ((lg_cmp_eq _ _).mpr q)) | exact (fun q => (fun q => c203 ((lg_cmp_eq _ _).mpr q)) (ng_0 q))) ?_
        refine r_lstore5 dX2_joined_228 rfl ?_
        refine r_lload_n dX2_joined_230 rfl ?_
        refine r_lload dX2_joined_231 rfl ?_
        refine r_lcmp dX2_joined_233 ?_
        refine r_if_gt 245 dX2_joined_234 (by decide) (fun c234 => ?_) (fun c234 => ?_)
        · refine r_ldc2_w dX2_joined_245 kcX2_37 ?_
          refine r_goto 254 dX2_joined_248 (by decide) ?_
          exact r_lret dX2_joined_254 rfl (by subst q1_11; rw [show wJo 31 x z = (if wMo x < z ∨ z < -wMo x then -9223372036854775808 else x * z) from rfl, wMo_n (fun q => c203 ((lg_cmp_eq _ _).mpr q)) (Int64.not_le.mp (fun q => c218 ((lg_cmp_ge _ _).mpr q))), if_pos (Or.inl ((lg_cmp_gt _ _).mp c234))]) rfl
        · refine r_lload_n dX2_joined_237 rfl ?_
          refine r_lload dX2_joined_238 rfl ?_
          refine r_lneg dX2_joined_240 ?_
          refine r_lcmp dX2_joined_241 ?_
          refine r_if_ge 251 dX2_joined_242 (by decide) (fun c242 => ?_) (fun c242 => ?_)
          · refine r_lload_n dX2_joined_251 rfl ?_
            refine r_lload_n dX2_joined_252 rfl ?_
            refine r_lmul dX2_joined_253 ?_
            exact r_lret dX2_joined_254 rfl (by subst q1_11; rw [show wJo 31 x z = (if wMo x < z ∨ z < -wMo x then -9223372036854775808 else x * z) from rfl, wMo_n (fun q => c203 ((lg_cmp_eq _ _).mpr q)) (Int64.not_le.mp (fun q => c218 ((lg_cmp_ge _ _).mpr q))), if_neg (fun q => q.elim (fun z => c234 ((lg_cmp_gt _ _).mpr z)) (Int64.not_lt.mpr ((lg_cmp_ge _ _).mp c242)))]) rfl
          · refine r_ldc2_w dX2_joined_245 kcX2_37 ?_
            refine r_goto 254 dX2_joined_248 (by decide) ?_
            exact r_lret dX2_joined_254 rfl (by subst q1_11; rw [show wJo 31 x z = (if wMo x < z ∨ z < -wMo x then -9223372036854775808 else x * z) from rfl, wMo_n (fun q => c203 ((lg_cmp_eq _ _).mpr q)) (Int64.not_le.mp (fun q => c218 ((lg_cmp_ge _ _).mpr q))), if_pos (Or.inr (Int64.not_le.mp (fun q => c242 ((lg_cmp_ge _ _).mpr q))))]) rfl
    · refine r_ldc2_w dX2_joined_206 kcX2_49 ?_
      refine r_goto 228 dX2_joined_209 (by decide) ?_
      refine r_lstore5 dX2_joined_228 rfl ?_
      refine r_lload_n dX2_joined_230 rfl ?_
      refine r_lload dX2_joined_231 rfl ?_
      refine r_lcmp dX2_joined_233 ?_
      refine r_if_gt 245 dX2_joined_234 (by decide) (fun c234 => ?_) (fun c234 => ?_)
      · refine r_ldc2_w dX2_joined_245 kcX2_37 ?_
        refine r_goto 254 dX2_joined_248 (by decide) ?_
        exact r_lret dX2_joined_254 rfl (by subst q1_11; rw [show wJo 31 x z = (if wMo x < z ∨ z < -wMo x then -9223372036854775808 else x * z) from rfl, wMo_0 ((lg_cmp_eq _ _).mp c203), if_pos (Or.inl ((lg_cmp_gt _ _).mp c234))]) rfl
      · refine r_lload_n dX2_joined_237 rfl ?_
        refine r_lload dX2_joined_238 rfl ?_
        refine r_lneg dX2_joined_240 ?_
        refine r_lcmp dX2_joined_241 ?_
        refine r_if_ge 251 dX2_joined_242 (by decide) (fun c242 => ?_) (fun c242 => ?_)
        · refine r_lload_n dX2_joined_251 rfl ?_
          refine r_lload_n dX2_joined_252 rfl ?_
          refine r_lmul dX2_joined_253 ?_
          exact r_lret dX2_joined_254 rfl (by subst q1_11; rw [show wJo 31 x z = (if wMo x < z ∨ z < -wMo x then -9223372036854775808 else x * z) from rfl, wMo_0 ((lg_cmp_eq _ _).mp c203), if_neg (fun q => q.elim (fun z => c234 ((lg_cmp_gt _ _).mpr z)) (Int64.not_lt.mpr ((lg_cmp_ge _ _).mp c242)))]) rfl
        · refine r_ldc2_w dX2_joined_245 kcX2_37 ?_
          refine r_goto 254 dX2_joined_248 (by decide) ?_
          exact r_lret dX2_joined_254 rfl (by subst q1_11; rw [show wJo 31 x z = (if wMo x < z ∨ z < -wMo x then -9223372036854775808 else x * z) from rfl, wMo_0 ((lg_cmp_eq _ _).mp c203), if_pos (Or.inr (Int64.not_le.mp (fun q => c242 ((lg_cmp_ge _ _).mpr q))))]) rfl
  by_cases q1_12 : k = 32
  · refine r_tsI 184 dX2_joined_1 (by rw [q1_12]; decide) (by rw [q1_12]; decide) (off := 183) (by rw [q1_12]; rfl) (by decide) ?_
    refine r_lload_n dX2_joined_184 rfl ?_
    refine r_lconst (v := 0) dX2_joined_185 (by decide) ?_
    refine r_lcmp dX2_joined_186 ?_
    refine r_if_ne 196 dX2_joined_187 (by decide) (fun c187 => ?_) (fun c187 => ?_)
    · refine r_lload_n dX2_joined_196 rfl ?_
      refine r_lload_n dX2_joined_197 rfl ?_
      refine r_ldiv dX2_joined_198 (fun q => c187 ((lg_cmp_eq _ _).mpr q)) ?_
      exact r_lret dX2_joined_199 rfl (by simp_all [wJo, lg_cmp_eq, lg_cmp_ge, lg_cmp_gt, lg_cmp_lt, lg_cmp_le]) rfl
    · refine r_ldc2_w dX2_joined_190 kcX2_37 ?_
      refine r_goto 199 dX2_joined_193 (by decide) ?_
      exact r_lret dX2_joined_199 rfl (by simp_all [wJo, lg_cmp_eq, lg_cmp_ge, lg_cmp_gt, lg_cmp_lt, lg_cmp_le]) rfl
  refine r_tsO 255 dX2_joined_1 (tsout_20_32 q1_0 q1_1 q1_2 q1_3 q1_4 q1_5 q1_6 q1_7 q1_8 q1_9 q1_10 q1_11 q1_12) (by decide) ?_
  refine r_ldc2_w dX2_joined_255 kcX2_37 ?_
  exact r_lret dX2_joined_258 rfl (by simp_all [wJo, lg_cmp_eq, lg_cmp_ge, lg_cmp_gt, lg_cmp_lt, lg_cmp_le]) rfl
theorem nI64 {q : Nat} (h : q < 64) : ¬ (64 : Int32) ≤ nI q := fun z => nI_ge (a := q) (b := 64) h (by omega) z
theorem nI_m0 (q : Nat) : nI q - 0 = nI q := by simp
theorem nI_m2 (q : Nat) : nI (q + 2) - 2 = nI q := by rw [show (2 : Int32) = nI 2 from rfl, pk_sub (by omega)]; rfl
theorem nI_m1 (q : Nat) : nI (q + 1) - 1 = nI q := nI_pred q
theorem nI_lt64 {q : Nat} (h : q < 64) : nI q < 64 := nI_lt (a := q) (b := 64) h (by omega)
theorem xu_ff {α : Type} (f : Nat → Nat → α) {a k a' : Nat} (v : α) (h : a' ≠ a) : xu f a k v a' = f a' := by funext q; simp [xu, h]
theorem wSt_A {N : Nat → Int64} {c : Int32} {l : List Int64} (hk : c - 10000 < 20) (hl : l.length < 64) : wSt N c l = wCk (wPl N c) l := by unfold wSt; rw [if_pos hk, if_pos hl]
theorem wSt_Af {N : Nat → Int64} {c : Int32} {l : List Int64} (hk : c - 10000 < 20) (hl : ¬ l.length < 64) : wSt N c l = none := by unfold wSt; rw [if_pos hk, if_neg hl]
theorem wSt_B0 {N : Nat → Int64} {c : Int32} (hk : ¬ c - 10000 < 20) (hk2 : c - 10000 = 22) : wSt N c [] = none := by unfold wSt; rw [if_neg hk, if_pos hk2]
theorem wSt_B {N : Nat → Int64} {c : Int32} {x : Int64} {r : List Int64} (hk : ¬ c - 10000 < 20) (hk2 : c - 10000 = 22) : wSt N c (x :: r) = wCk (if x = 0 then 1 else 0) r := by unfold wSt; rw [if_neg hk, if_pos hk2]
theorem wSt_C0 {N : Nat → Int64} {c : Int32} (hk : ¬ c - 10000 < 20) (hk2 : ¬ c - 10000 = 22) : wSt N c [] = none := by unfold wSt; rw [if_neg hk, if_neg hk2]
theorem wSt_C1 {N : Nat → Int64} {c : Int32} {x : Int64} (hk : ¬ c - 10000 < 20) (hk2 : ¬ c - 10000 = 22) : wSt N c [x] = none := by unfold wSt; rw [if_neg hk, if_neg hk2]
theorem wSt_C {N : Nat → Int64} {c : Int32} {x z : Int64} {r : List Int64} (hk : ¬ c - 10000 < 20) (hk2 : ¬ c - 10000 = 22) : wSt N c (z :: x :: r) = wCk (wJo (c - 10000) x z) r := by unfold wSt; rw [if_neg hk, if_neg hk2]
/-- where a law's run ends: its answer, and only the stack of longs has changed -/
def Qw (I : Nat → Nat → Int32) (J : Nat → Nat → Int64) (P : Nat → Nat → Nat) (t : Nat) (v : Int64) : Option Value → xS → Prop := fun r S' => r = some (.long v) ∧ ∃ J', S' = (SH, I, J', P) ∧ Jbut J J' t
theorem wRun_n {kn : Nat → Int32} {N : Nat → Int64} {c p : Nat} {l : List Int64} (h : wSt N (kn p) l = none) : wRun kn N (c + 1) p l = -9223372036854775808 := by simp only [wRun, h]
theorem wRun_s {kn : Nat → Int32} {N : Nat → Int64} {c p : Nat} {l l' : List Int64} (h : wSt N (kn p) l = some l') : wRun kn N (c + 1) p l = wRun kn N c (p + 1) l' := by simp only [wRun, h]
theorem wCk_n {v : Int64} {l : List Int64} (h : 1000000000000 < v ∨ v < -1000000000000) : wCk v l = none := if_pos h
theorem wCk_s {v : Int64} {l : List Int64} (h1 : ¬ 1000000000000 < v) (h2 : ¬ v < -1000000000000) : wCk v l = some (v :: l) := if_neg (fun q => q.elim h1 h2)
theorem W31 {E : xCl} {ex : Bool} {d t : Nat} {lw a a' i i' : Int32} {x4 x5 x6 x7 : Option Value} {S : xS} {Q : Option Value → xS → Prop} (h1 : a = a') (h2 : i = i') (h : xR (xEx E ex d) ex none yX2_work cX2_work (some .long) 31 [some (.ref (t + 7)), some (.int lw), some (.int a'), some (.int i'), x4, x5, x6, x7] [] S Q) : xR (xEx E ex d) ex none yX2_work cX2_work (some .long) 31 [some (.ref (t + 7)), some (.int lw), some (.int a), some (.int i), x4, x5, x6, x7] [] S Q := by subst h1; subst h2; exact h
set_option maxHeartbeats 2000000 in
theorem l_work {E : xCl} {ex : Bool} {I : Nat → Nat → Int32} {J : Nat → Nat → Int64} {P : Nat → Nat → Nat} (hP : Pok P) {t : Nat} (ht : t ∈ TL) {lw : Int32} {e : Nat} (hk3 : vp_in lw 3) (he : I (t + 10) lw.toNatClampNeg = nI e) (he64 : e ≤ 64) (d : Nat) :
    ∀ (c p : Nat) (l : List Int64) (J1 : Nat → Nat → Int64) (x4 x5 x6 x7 : Option Value), p + c = e → l.length ≤ 64 → stk (J1 (t + 12)) l → Jbut J J1 t → J1 (t + 11) = J (t + 11) → xR (xEx E ex (d + 1)) ex none yX2_work cX2_work (some .long) 31 [some (.ref (t + 7)), some (.int lw), some (.int (nI l.length)), some (.int (nI p)), x4, x5, x6, x7] [] (SH, I, J1, P) (Qw I J P t (wRun (I (t + 8)) (J (t + 11)) c p l)) := by
  intro c
  induction c with
  | zero =>
    intro p l J1 x4 x5 x6 x7 hp hl hst hJ hN
    match l, hl, hst with
    | [x], hl, hst =>
      refine r_iload_n dX2_work_31 rfl ?_
      refine r_aload_n dX2_work_32 rfl ?_
      refine r_getR dX2_work_33 flX2_20 (tl_w _ ht) (by decide) rfl (tw_p2 hP _ ht) ?_
      refine r_iload_n dX2_work_36 rfl ?_
      refine r_ialv dX2_work_37 (tw_a2 _ ht) hk3 he ?_
      refine r_ic_ge 215 dX2_work_38 (by decide) (fun c38 => ?_) (fun c38 => ?_)
      · refine r_iload_n dX2_work_215 rfl ?_
        refine r_iconst (v := 1) dX2_work_216 (by decide) ?_
        refine r_ic_ne 229 dX2_work_217 (by decide) (fun c217 => ?_) (fun c217 => ?_)
        · exact absurd rfl c217
        · refine r_aload_n dX2_work_220 rfl ?_
          refine r_getR dX2_work_221 flX2_27 (tl_w _ ht) (by decide) rfl (tw_p4 hP _ ht) ?_
          refine r_iconst (v := 0) dX2_work_224 (by decide) ?_
          refine r_lalv dX2_work_225 (tw_a4 _ ht) (vp_in_iff.mpr (by decide)) (stk_top (r := []) hst) ?_
          refine r_goto 232 dX2_work_226 (by decide) ?_
          exact r_lretq dX2_work_232 rfl ⟨by first | rfl | (rw [hz]), J1, rfl, hJ⟩
      · exact absurd (by rw [show p = e by omega]; exact nI_le (Nat.le_refl _) (by omega)) c38
    | [], hl, hst =>
      have hne : ¬ nI ([] : List Int64).length = 1 := by decide
      have hz : wRun (I (t + 8)) (J (t + 11)) 0 p [] = -9223372036854775808 := rfl
      refine r_iload_n dX2_work_31 rfl ?_
      refine r_aload_n dX2_work_32 rfl ?_
      refine r_getR dX2_work_33 flX2_20 (tl_w _ ht) (by decide) rfl (tw_p2 hP _ ht) ?_
      refine r_iload_n dX2_work_36 rfl ?_
      refine r_ialv dX2_work_37 (tw_a2 _ ht) hk3 he ?_
      refine r_ic_ge 215 dX2_work_38 (by decide) (fun c38 => ?_) (fun c38 => ?_)
      · refine r_iload_n dX2_work_215 rfl ?_
        refine r_iconst (v := 1) dX2_work_216 (by decide) ?_
        refine r_ic_ne 229 dX2_work_217 (by decide) (fun c217 => ?_) (fun c217 => ?_)
        · refine r_ldc2_w dX2_work_229 kcX2_37 ?_
          exact r_lretq dX2_work_232 rfl ⟨by first | rfl | (rw [hz]), J1, rfl, hJ⟩
        · exact absurd c217 hne
      · exact absurd (by rw [show p = e by omega]; exact nI_le (Nat.le_refl _) (by omega)) c38
    | x :: z :: r, hl, hst =>
      have hne : ¬ nI (x :: z :: r).length = 1 := fun q => by
        have := (nI_eq (a := r.length + 2) (b := 1) (by simp only [List.length_cons] at *; omega) (by omega)).mp q
        omega
      have hz : wRun (I (t + 8)) (J (t + 11)) 0 p (x :: z :: r) = -9223372036854775808 := rfl
      refine r_iload_n dX2_work_31 rfl ?_
      refine r_aload_n dX2_work_32 rfl ?_
      refine r_getR dX2_work_33 flX2_20 (tl_w _ ht) (by decide) rfl (tw_p2 hP _ ht) ?_
      refine r_iload_n dX2_work_36 rfl ?_
      refine r_ialv dX2_work_37 (tw_a2 _ ht) hk3 he ?_
      refine r_ic_ge 215 dX2_work_38 (by decide) (fun c38 => ?_) (fun c38 => ?_)
      · refine r_iload_n dX2_work_215 rfl ?_
        refine r_iconst (v := 1) dX2_work_216 (by decide) ?_
        refine r_ic_ne 229 dX2_work_217 (by decide) (fun c217 => ?_) (fun c217 => ?_)
        · refine r_ldc2_w dX2_work_229 kcX2_37 ?_
          exact r_lretq dX2_work_232 rfl ⟨by first | rfl | (rw [hz]), J1, rfl, hJ⟩
        · exact absurd c217 hne
      · exact absurd (by rw [show p = e by omega]; exact nI_le (Nat.le_refl _) (by omega)) c38
  | succ c ih =>
    intro p l J1 x4 x5 x6 x7 hp hl hst hJ hN
    rw [← hN] at ih ⊢
    by_cases hk : I (t + 8) p - 10000 < 20
    · by_cases hl2 : l.length < 64
      · refine r_iload_n dX2_work_31 rfl ?_
        refine r_aload_n dX2_work_32 rfl ?_
        refine r_getR dX2_work_33 flX2_20 (tl_w _ ht) (by decide) rfl (tw_p2 hP _ ht) ?_
        refine r_iload_n dX2_work_36 rfl ?_
        refine r_ialv dX2_work_37 (tw_a2 _ ht) hk3 he ?_
        refine r_ic_ge 215 dX2_work_38 (by decide) (fun c38 => ?_) (fun c38 => ?_)
        · exact absurd c38 (nI_ge (by omega) (by omega))
        · refine r_iload_n dX2_work_41 rfl ?_
          refine r_bipush (v := 64) dX2_work_42 (by decide) ?_
          refine r_ic_ge 215 dX2_work_44 (by decide) (fun c44 => ?_) (fun c44 => ?_)
          · exact absurd c44 (nI64 (by omega))
          · refine r_aload_n dX2_work_47 rfl ?_
            refine r_getR dX2_work_48 flX2_11 (tl_w _ ht) (by decide) rfl (tw_p0 hP _ ht) ?_
            refine r_iload_n dX2_work_51 rfl ?_
            refine r_ialv dX2_work_52 (tw_a0 _ ht) (vp_in_nI (by omega) (by omega)) (congrArg (I (t + 8)) (nI_clamp (by omega))) ?_
            refine r_sipush (v := 10000) dX2_work_53 (by decide) ?_
            refine r_isub dX2_work_56 ?_
            refine r_istore4 dX2_work_57 rfl ?_
            refine r_iload dX2_work_59 rfl ?_
            refine r_bipush (v := 20) dX2_work_61 (by decide) ?_
            refine r_ic_ge 70 dX2_work_63 (by decide) (fun c63 => ?_) (fun c63 => ?_)
            · exact absurd hk (Int32.not_lt.mpr c63)
            · refine r_iconst (v := 0) dX2_work_66 (by decide) ?_
              refine r_goto 82 dX2_work_67 (by decide) ?_
              refine r_istore5 dX2_work_82 rfl ?_
              refine r_iload_n dX2_work_84 rfl ?_
              refine r_iload dX2_work_85 rfl ?_
              refine r_ic_lt 99 dX2_work_87 (by decide) (fun c87 => ?_) (fun c87 => ?_)
              · exact absurd c87 (nI_nlt (Nat.zero_le _) (by omega))
              · refine r_iload_n dX2_work_90 rfl ?_
                refine r_iload dX2_work_91 rfl ?_
                refine r_isub dX2_work_93 ?_
                refine r_bipush (v := 64) dX2_work_94 (by decide) ?_
                refine r_ic_lt 103 dX2_work_96 (by decide) (fun c96 => ?_) (fun c96 => ?_)
                · refine r_iload_n dX2_work_103 rfl ?_
                  refine r_iload dX2_work_104 rfl ?_
                  refine r_isub dX2_work_106 ?_
                  refine r_istore_n2 dX2_work_107 rfl ?_
                  refine r_iload dX2_work_108 rfl ?_
                  refine r_if_ne 128 dX2_work_110 (by decide) (fun c110 => ?_) (fun c110 => ?_)
                  · exact absurd c110 (by decide)
                  · refine r_aload_n dX2_work_113 rfl ?_
                    refine r_aload_n dX2_work_114 rfl ?_
                    refine r_getR dX2_work_115 flX2_11 (tl_w _ ht) (by decide) rfl (tw_p0 hP _ ht) ?_
                    refine r_iload_n dX2_work_118 rfl ?_
                    refine r_ialv dX2_work_119 (tw_a0 _ ht) (vp_in_nI (by omega) (by omega)) (congrArg (I (t + 8)) (nI_clamp (by omega))) ?_
                    refine r_cV1l dX2_work_120 vlX2_41 (tl_w _ ht) (Nat.le_of_ble_eq_true rfl) (k_plainValue hP ht _ d) ?_
                    refine r_lstore6 dX2_work_123 rfl ?_
                    refine r_goto 176 dX2_work_125 (by decide) ?_
                    refine r_lload dX2_work_176 rfl ?_
                    refine r_ldc2_w dX2_work_178 kcX2_49 ?_
                    refine r_lcmp dX2_work_181 ?_
                    refine r_if_gt 194 dX2_work_182 (by decide) (fun c182 => ?_) (fun c182 => ?_)
                    · refine r_ldc2_w dX2_work_194 kcX2_37 ?_
                      exact r_lretq dX2_work_197 rfl ⟨by rw [wRun_n ((wSt_A hk hl2).trans (wCk_n (Or.inl ((lg_cmp_gt _ _).mp c182))))], J1, rfl, hJ⟩
                    · refine r_lload dX2_work_185 rfl ?_
                      refine r_ldc2_w dX2_work_187 kcX2_51 ?_
                      refine r_lcmp dX2_work_190 ?_
                      refine r_if_ge 198 dX2_work_191 (by decide) (fun c191 => ?_) (fun c191 => ?_)
                      · refine r_aload_n dX2_work_198 rfl ?_
                        refine r_getR dX2_work_199 flX2_27 (tl_w _ ht) (by decide) rfl (tw_p4 hP _ ht) ?_
                        refine r_iload_n dX2_work_202 rfl ?_
                        refine r_lload dX2_work_203 rfl ?_
                        refine r_lasv dX2_work_205 (tw_a4 _ ht) (by rw [nI_m0]; exact vp_in_nI hl2 (by omega)) (congrArg (fun q => xu J1 (t + 12) q _) (by show (nI l.length - 0).toNatClampNeg = l.length; rw [nI_m0]; exact nI_clamp (by omega))) ?_
                        refine r_iinc2 (v := 1) dX2_work_206 (by decide) rfl ?_
                        refine r_iinc3 (v := 1) dX2_work_209 (by decide) rfl ?_
                        refine r_goto 31 dX2_work_212 (by decide) ?_
                        rw [wRun_s ((wSt_A hk hl2).trans (wCk_s (fun q => c182 ((lg_cmp_gt _ _).mpr q)) (Int64.not_lt.mpr ((lg_cmp_ge _ _).mp c191))))]; exact W31 (by show nI l.length - 0 + 1 = nI (l.length + 1); rw [nI_m0, nI_1]) (nI_1 p) (ih (p + 1) _ _ _ _ _ _ (by omega) (by simp only [List.length_cons] at *; omega) (stk_push _ hst) (fun a k h => by rw [xu_f _ _ h]; exact hJ a k h) (xu_ff _ _ (by omega)))
                      · refine r_ldc2_w dX2_work_194 kcX2_37 ?_
                        exact r_lretq dX2_work_197 rfl ⟨by rw [wRun_n ((wSt_A hk hl2).trans (wCk_n (Or.inr (Int64.not_le.mp (fun q => c191 ((lg_cmp_ge _ _).mpr q))))))], J1, rfl, hJ⟩
                · exact absurd (by rw [nI_m0]; exact nI_lt64 hl2) c96
      · refine r_iload_n dX2_work_31 rfl ?_
        refine r_aload_n dX2_work_32 rfl ?_
        refine r_getR dX2_work_33 flX2_20 (tl_w _ ht) (by decide) rfl (tw_p2 hP _ ht) ?_
        refine r_iload_n dX2_work_36 rfl ?_
        refine r_ialv dX2_work_37 (tw_a2 _ ht) hk3 he ?_
        refine r_ic_ge 215 dX2_work_38 (by decide) (fun c38 => ?_) (fun c38 => ?_)
        · exact absurd c38 (nI_ge (by omega) (by omega))
        · refine r_iload_n dX2_work_41 rfl ?_
          refine r_bipush (v := 64) dX2_work_42 (by decide) ?_
          refine r_ic_ge 215 dX2_work_44 (by decide) (fun c44 => ?_) (fun c44 => ?_)
          · exact absurd c44 (nI64 (by omega))
          · refine r_aload_n dX2_work_47 rfl ?_
            refine r_getR dX2_work_48 flX2_11 (tl_w _ ht) (by decide) rfl (tw_p0 hP _ ht) ?_
            refine r_iload_n dX2_work_51 rfl ?_
            refine r_ialv dX2_work_52 (tw_a0 _ ht) (vp_in_nI (by omega) (by omega)) (congrArg (I (t + 8)) (nI_clamp (by omega))) ?_
            refine r_sipush (v := 10000) dX2_work_53 (by decide) ?_
            refine r_isub dX2_work_56 ?_
            refine r_istore4 dX2_work_57 rfl ?_
            refine r_iload dX2_work_59 rfl ?_
            refine r_bipush (v := 20) dX2_work_61 (by decide) ?_
            refine r_ic_ge 70 dX2_work_63 (by decide) (fun c63 => ?_) (fun c63 => ?_)
            · exact absurd hk (Int32.not_lt.mpr c63)
            · refine r_iconst (v := 0) dX2_work_66 (by decide) ?_
              refine r_goto 82 dX2_work_67 (by decide) ?_
              refine r_istore5 dX2_work_82 rfl ?_
              refine r_iload_n dX2_work_84 rfl ?_
              refine r_iload dX2_work_85 rfl ?_
              refine r_ic_lt 99 dX2_work_87 (by decide) (fun c87 => ?_) (fun c87 => ?_)
              · exact absurd c87 (nI_nlt (Nat.zero_le _) (by omega))
              · refine r_iload_n dX2_work_90 rfl ?_
                refine r_iload dX2_work_91 rfl ?_
                refine r_isub dX2_work_93 ?_
                refine r_bipush (v := 64) dX2_work_94 (by decide) ?_
                refine r_ic_lt 103 dX2_work_96 (by decide) (fun c96 => ?_) (fun c96 => ?_)
                · exact absurd c96 (by rw [nI_m0]; exact nI_nlt (a := l.length) (b := 64) (by omega) (by omega))
                · refine r_ldc2_w dX2_work_99 kcX2_37 ?_
                  exact r_lretq dX2_work_102 rfl ⟨by rw [wRun_n (wSt_Af hk hl2)], J1, rfl, hJ⟩
    · by_cases hk2 : I (t + 8) p - 10000 = 22
      · match l, hl, hst with
        | [], hl, hst =>
          refine r_iload_n dX2_work_31 rfl ?_
          refine r_aload_n dX2_work_32 rfl ?_
          refine r_getR dX2_work_33 flX2_20 (tl_w _ ht) (by decide) rfl (tw_p2 hP _ ht) ?_
          refine r_iload_n dX2_work_36 rfl ?_
          refine r_ialv dX2_work_37 (tw_a2 _ ht) hk3 he ?_
          refine r_ic_ge 215 dX2_work_38 (by decide) (fun c38 => ?_) (fun c38 => ?_)
          · exact absurd c38 (nI_ge (by omega) (by omega))
          · refine r_iload_n dX2_work_41 rfl ?_
            refine r_bipush (v := 64) dX2_work_42 (by decide) ?_
            refine r_ic_ge 215 dX2_work_44 (by decide) (fun c44 => ?_) (fun c44 => ?_)
            · exact absurd c44 (nI64 (by omega))
            · refine r_aload_n dX2_work_47 rfl ?_
              refine r_getR dX2_work_48 flX2_11 (tl_w _ ht) (by decide) rfl (tw_p0 hP _ ht) ?_
              refine r_iload_n dX2_work_51 rfl ?_
              refine r_ialv dX2_work_52 (tw_a0 _ ht) (vp_in_nI (by omega) (by omega)) (congrArg (I (t + 8)) (nI_clamp (by omega))) ?_
              refine r_sipush (v := 10000) dX2_work_53 (by decide) ?_
              refine r_isub dX2_work_56 ?_
              refine r_istore4 dX2_work_57 rfl ?_
              refine r_iload dX2_work_59 rfl ?_
              refine r_bipush (v := 20) dX2_work_61 (by decide) ?_
              refine r_ic_ge 70 dX2_work_63 (by decide) (fun c63 => ?_) (fun c63 => ?_)
              · refine r_iload dX2_work_70 rfl ?_
                refine r_bipush (v := 22) dX2_work_72 (by decide) ?_
                refine r_ic_ne 81 dX2_work_74 (by decide) (fun c74 => ?_) (fun c74 => ?_)
                · exact absurd hk2 c74
                · refine r_iconst (v := 1) dX2_work_77 (by decide) ?_
                  refine r_goto 82 dX2_work_78 (by decide) ?_
                  refine r_istore5 dX2_work_82 rfl ?_
                  refine r_iload_n dX2_work_84 rfl ?_
                  refine r_iload dX2_work_85 rfl ?_
                  refine r_ic_lt 99 dX2_work_87 (by decide) (fun c87 => ?_) (fun c87 => ?_)
                  · refine r_ldc2_w dX2_work_99 kcX2_37 ?_
                    exact r_lretq dX2_work_102 rfl ⟨by rw [wRun_n (wSt_B0 hk hk2)], J1, rfl, hJ⟩
                  · exact absurd (by show nI 0 < nI 1; exact nI_lt (by omega) (by omega)) c87
              · exact absurd (Int32.not_le.mp c63) hk
        | x :: r, hl, hst =>
          refine r_iload_n dX2_work_31 rfl ?_
          refine r_aload_n dX2_work_32 rfl ?_
          refine r_getR dX2_work_33 flX2_20 (tl_w _ ht) (by decide) rfl (tw_p2 hP _ ht) ?_
          refine r_iload_n dX2_work_36 rfl ?_
          refine r_ialv dX2_work_37 (tw_a2 _ ht) hk3 he ?_
          refine r_ic_ge 215 dX2_work_38 (by decide) (fun c38 => ?_) (fun c38 => ?_)
          · exact absurd c38 (nI_ge (by omega) (by omega))
          · refine r_iload_n dX2_work_41 rfl ?_
            refine r_bipush (v := 64) dX2_work_42 (by decide) ?_
            refine r_ic_ge 215 dX2_work_44 (by decide) (fun c44 => ?_) (fun c44 => ?_)
            · exact absurd c44 (nI64 (by omega))
            · refine r_aload_n dX2_work_47 rfl ?_
              refine r_getR dX2_work_48 flX2_11 (tl_w _ ht) (by decide) rfl (tw_p0 hP _ ht) ?_
              refine r_iload_n dX2_work_51 rfl ?_
              refine r_ialv dX2_work_52 (tw_a0 _ ht) (vp_in_nI (by omega) (by omega)) (congrArg (I (t + 8)) (nI_clamp (by omega))) ?_
              refine r_sipush (v := 10000) dX2_work_53 (by decide) ?_
              refine r_isub dX2_work_56 ?_
              refine r_istore4 dX2_work_57 rfl ?_
              refine r_iload dX2_work_59 rfl ?_
              refine r_bipush (v := 20) dX2_work_61 (by decide) ?_
              refine r_ic_ge 70 dX2_work_63 (by decide) (fun c63 => ?_) (fun c63 => ?_)
              · refine r_iload dX2_work_70 rfl ?_
                refine r_bipush (v := 22) dX2_work_72 (by decide) ?_
                refine r_ic_ne 81 dX2_work_74 (by decide) (fun c74 => ?_) (fun c74 => ?_)
                · exact absurd hk2 c74
                · refine r_iconst (v := 1) dX2_work_77 (by decide) ?_
                  refine r_goto 82 dX2_work_78 (by decide) ?_
                  refine r_istore5 dX2_work_82 rfl ?_
                  refine r_iload_n dX2_work_84 rfl ?_
                  refine r_iload dX2_work_85 rfl ?_
                  refine r_ic_lt 99 dX2_work_87 (by decide) (fun c87 => ?_) (fun c87 => ?_)
                  · exact absurd c87 (nI_nlt (a := r.length + 1) (b := 1) (by omega) (by simp only [List.length_cons] at *; omega))
                  · refine r_iload_n dX2_work_90 rfl ?_
                    refine r_iload dX2_work_91 rfl ?_
                    refine r_isub dX2_work_93 ?_
                    refine r_bipush (v := 64) dX2_work_94 (by decide) ?_
                    refine r_ic_lt 103 dX2_work_96 (by decide) (fun c96 => ?_) (fun c96 => ?_)
                    · refine r_iload_n dX2_work_103 rfl ?_
                      refine r_iload dX2_work_104 rfl ?_
                      refine r_isub dX2_work_106 ?_
                      refine r_istore_n2 dX2_work_107 rfl ?_
                      refine r_iload dX2_work_108 rfl ?_
                      refine r_if_ne 128 dX2_work_110 (by decide) (fun c110 => ?_) (fun c110 => ?_)
                      · refine r_iload dX2_work_128 rfl ?_
                        refine r_iconst (v := 1) dX2_work_130 (by decide) ?_
                        refine r_ic_ne 155 dX2_work_131 (by decide) (fun c131 => ?_) (fun c131 => ?_)
                        · exact absurd c131 (by decide)
                        · refine r_aload_n dX2_work_134 rfl ?_
                          refine r_getR dX2_work_135 flX2_27 (tl_w _ ht) (by decide) rfl (tw_p4 hP _ ht) ?_
                          refine r_iload_n dX2_work_138 rfl ?_
                          refine r_lalv dX2_work_139 (tw_a4 _ ht) (by show vp_in (nI (r.length + 1) - 1) 64; rw [nI_m1]; exact vp_in_nI (by simp only [List.length_cons] at *; omega) (by omega)) ((congrArg (J1 (t + 12)) (by show (nI (r.length + 1) - 1).toNatClampNeg = _; rw [nI_m1]; exact nI_clamp (by simp only [List.length_cons] at *; omega))).trans (stk_top hst)) ?_
                          refine r_lconst (v := 0) dX2_work_140 (by decide) ?_
                          refine r_lcmp dX2_work_141 ?_
                          refine r_if_ne 149 dX2_work_142 (by decide) (fun c142 => ?_) (fun c142 => ?_)
                          · refine r_lconst (v := 0) dX2_work_149 (by decide) ?_
                            refine r_lstore6 dX2_work_150 rfl ?_
                            refine r_goto 176 dX2_work_152 (by decide) ?_
                            refine r_lload dX2_work_176 rfl ?_
                            refine r_ldc2_w dX2_work_178 kcX2_49 ?_
                            refine r_lcmp dX2_work_181 ?_
                            refine r_if_gt 194 dX2_work_182 (by decide) (fun c182 => ?_) (fun c182 => ?_)
                            · refine r_ldc2_w dX2_work_194 kcX2_37 ?_
                              exact r_lretq dX2_work_197 rfl ⟨by rw [wRun_n ((wSt_B hk hk2).trans (by rw [if_neg (fun q => c142 ((lg_cmp_eq _ _).mpr q))]; exact wCk_n (Or.inl ((lg_cmp_gt _ _).mp c182))))], J1, rfl, hJ⟩
                            · refine r_lload dX2_work_185 rfl ?_
                              refine r_ldc2_w dX2_work_187 kcX2_51 ?_
                              refine r_lcmp dX2_work_190 ?_
                              refine r_if_ge 198 dX2_work_191 (by decide) (fun c191 => ?_) (fun c191 => ?_)
                              · refine r_aload_n dX2_work_198 rfl ?_
                                refine r_getR dX2_work_199 flX2_27 (tl_w _ ht) (by decide) rfl (tw_p4 hP _ ht) ?_
                                refine r_iload_n dX2_work_202 rfl ?_
                                refine r_lload dX2_work_203 rfl ?_
                                refine r_lasv dX2_work_205 (tw_a4 _ ht) (by show vp_in (nI (r.length + 1) - 1) 64; rw [nI_m1]; exact vp_in_nI (by simp only [List.length_cons] at *; omega) (by omega)) (congrArg (fun q => xu J1 (t + 12) q _) (by show (nI (r.length + 1) - 1).toNatClampNeg = r.length; rw [nI_m1]; exact nI_clamp (by simp only [List.length_cons] at *; omega))) ?_
                                refine r_iinc2 (v := 1) dX2_work_206 (by decide) rfl ?_
                                refine r_iinc3 (v := 1) dX2_work_209 (by decide) rfl ?_
                                refine r_goto 31 dX2_work_212 (by decide) ?_
                                rw [wRun_s ((wSt_B hk hk2).trans (by rw [if_neg (fun q => c142 ((lg_cmp_eq _ _).mpr q))]; exact wCk_s (fun q => c182 ((lg_cmp_gt _ _).mpr q)) (Int64.not_lt.mpr ((lg_cmp_ge _ _).mp c191))))]; exact W31 (by show nI (r.length + 1) - 1 + 1 = nI (r.length + 1); rw [nI_m1, nI_1]) (nI_1 p) (ih (p + 1) _ _ _ _ _ _ (by omega) (by simp only [List.length_cons] at *; omega) (stk_push _ (stk_pop hst)) (fun a k h => by rw [xu_f _ _ h]; exact hJ a k h) (xu_ff _ _ (by omega)))
                              · refine r_ldc2_w dX2_work_194 kcX2_37 ?_
                                exact r_lretq dX2_work_197 rfl ⟨by rw [wRun_n ((wSt_B hk hk2).trans (by rw [if_neg (fun q => c142 ((lg_cmp_eq _ _).mpr q))]; exact wCk_n (Or.inr (Int64.not_le.mp (fun q => c191 ((lg_cmp_ge _ _).mpr q))))))], J1, rfl, hJ⟩
                          · refine r_lconst (v := 1) dX2_work_145 (by decide) ?_
                            refine r_goto 150 dX2_work_146 (by decide) ?_
                            refine r_lstore6 dX2_work_150 rfl ?_
                            refine r_goto 176 dX2_work_152 (by decide) ?_
                            refine r_lload dX2_work_176 rfl ?_
                            refine r_ldc2_w dX2_work_178 kcX2_49 ?_
                            refine r_lcmp dX2_work_181 ?_
                            refine r_if_gt 194 dX2_work_182 (by decide) (fun c182 => ?_) (fun c182 => ?_)
                            · refine r_ldc2_w dX2_work_194 kcX2_37 ?_
                              exact r_lretq dX2_work_197 rfl ⟨by rw [wRun_n ((wSt_B hk hk2).trans (by rw [if_pos ((lg_cmp_eq _ _).mp c142)]; exact wCk_n (Or.inl ((lg_cmp_gt _ _).mp c182))))], J1, rfl, hJ⟩
                            · refine r_lload dX2_work_185 rfl ?_
                              refine r_ldc2_w dX2_work_187 kcX2_51 ?_
                              refine r_lcmp dX2_work_190 ?_
                              refine r_if_ge 198 dX2_work_191 (by decide) (fun c191 => ?_) (fun c191 => ?_)
                              · refine r_aload_n dX2_work_198 rfl ?_
                                refine r_getR dX2_work_199 flX2_27 (tl_w _ ht) (by decide) rfl (tw_p4 hP _ ht) ?_
                                refine r_iload_n dX2_work_202 rfl ?_
                                refine r_lload dX2_work_203 rfl ?_
                                refine r_lasv dX2_work_205 (tw_a4 _ ht) (by show vp_in (nI (r.length + 1) - 1) 64; rw [nI_m1]; exact vp_in_nI (by simp only [List.length_cons] at *; omega) (by omega)) (congrArg (fun q => xu J1 (t + 12) q _) (by show (nI (r.length + 1) - 1).toNatClampNeg = r.length; rw [nI_m1]; exact nI_clamp (by simp only [List.length_cons] at *; omega))) ?_
                                refine r_iinc2 (v := 1) dX2_work_206 (by decide) rfl ?_
                                refine r_iinc3 (v := 1) dX2_work_209 (by decide) rfl ?_
                                refine r_goto 31 dX2_work_212 (by decide) ?_
                                rw [wRun_s ((wSt_B hk hk2).trans (by rw [if_pos ((lg_cmp_eq _ _).mp c142)]; exact wCk_s (fun q => c182 ((lg_cmp_gt _ _).mpr q)) (Int64.not_lt.mpr ((lg_cmp_ge _ _).mp c191))))]; exact W31 (by show nI (r.length + 1) - 1 + 1 = nI (r.length + 1); rw [nI_m1, nI_1]) (nI_1 p) (ih (p + 1) _ _ _ _ _ _ (by omega) (by simp only [List.length_cons] at *; omega) (stk_push _ (stk_pop hst)) (fun a k h => by rw [xu_f _ _ h]; exact hJ a k h) (xu_ff _ _ (by omega)))
                              · refine r_ldc2_w dX2_work_194 kcX2_37 ?_
                                exact r_lretq dX2_work_197 rfl ⟨by rw [wRun_n ((wSt_B hk hk2).trans (by rw [if_pos ((lg_cmp_eq _ _).mp c142)]; exact wCk_n (Or.inr (Int64.not_le.mp (fun q => c191 ((lg_cmp_ge _ _).mpr q))))))], J1, rfl, hJ⟩
                      · exact absurd c110 (by decide)
                    · exact absurd (by show nI (r.length + 1) - 1 < 64; rw [nI_m1]; exact nI_lt64 (by simp only [List.length_cons] at *; omega)) c96
              · exact absurd (Int32.not_le.mp c63) hk
      · match l, hl, hst with
        | [], hl, hst =>
          refine r_iload_n dX2_work_31 rfl ?_
          refine r_aload_n dX2_work_32 rfl ?_
          refine r_getR dX2_work_33 flX2_20 (tl_w _ ht) (by decide) rfl (tw_p2 hP _ ht) ?_
          refine r_iload_n dX2_work_36 rfl ?_
          refine r_ialv dX2_work_37 (tw_a2 _ ht) hk3 he ?_
          refine r_ic_ge 215 dX2_work_38 (by decide) (fun c38 => ?_) (fun c38 => ?_)
          · exact absurd c38 (nI_ge (by omega) (by omega))
          · refine r_iload_n dX2_work_41 rfl ?_
            refine r_bipush (v := 64) dX2_work_42 (by decide) ?_
            refine r_ic_ge 215 dX2_work_44 (by decide) (fun c44 => ?_) (fun c44 => ?_)
            · exact absurd c44 (nI64 (by omega))
            · refine r_aload_n dX2_work_47 rfl ?_
              refine r_getR dX2_work_48 flX2_11 (tl_w _ ht) (by decide) rfl (tw_p0 hP _ ht) ?_
              refine r_iload_n dX2_work_51 rfl ?_
              refine r_ialv dX2_work_52 (tw_a0 _ ht) (vp_in_nI (by omega) (by omega)) (congrArg (I (t + 8)) (nI_clamp (by omega))) ?_
              refine r_sipush (v := 10000) dX2_work_53 (by decide) ?_
              refine r_isub dX2_work_56 ?_
              refine r_istore4 dX2_work_57 rfl ?_
              refine r_iload dX2_work_59 rfl ?_
              refine r_bipush (v := 20) dX2_work_61 (by decide) ?_
              refine r_ic_ge 70 dX2_work_63 (by decide) (fun c63 => ?_) (fun c63 => ?_)
              · refine r_iload dX2_work_70 rfl ?_
                refine r_bipush (v := 22) dX2_work_72 (by decide) ?_
                refine r_ic_ne 81 dX2_work_74 (by decide) (fun c74 => ?_) (fun c74 => ?_)
                · refine r_iconst (v := 2) dX2_work_81 (by decide) ?_
                  refine r_istore5 dX2_work_82 rfl ?_
                  refine r_iload_n dX2_work_84 rfl ?_
                  refine r_iload dX2_work_85 rfl ?_
                  refine r_ic_lt 99 dX2_work_87 (by decide) (fun c87 => ?_) (fun c87 => ?_)
                  · refine r_ldc2_w dX2_work_99 kcX2_37 ?_
                    exact r_lretq dX2_work_102 rfl ⟨by rw [wRun_n (wSt_C0 hk hk2)], J1, rfl, hJ⟩
                  · exact absurd (by show nI 0 < nI 2; exact nI_lt (by omega) (by omega)) c87
                · exact absurd c74 hk2
              · exact absurd (Int32.not_le.mp c63) hk
        | [x], hl, hst =>
          refine r_iload_n dX2_work_31 rfl ?_
          refine r_aload_n dX2_work_32 rfl ?_
          refine r_getR dX2_work_33 flX2_20 (tl_w _ ht) (by decide) rfl (tw_p2 hP _ ht) ?_
          refine r_iload_n dX2_work_36 rfl ?_
          refine r_ialv dX2_work_37 (tw_a2 _ ht) hk3 he ?_
          refine r_ic_ge 215 dX2_work_38 (by decide) (fun c38 => ?_) (fun c38 => ?_)
          · exact absurd c38 (nI_ge (by omega) (by omega))
          · refine r_iload_n dX2_work_41 rfl ?_
            refine r_bipush (v := 64) dX2_work_42 (by decide) ?_
            refine r_ic_ge 215 dX2_work_44 (by decide) (fun c44 => ?_) (fun c44 => ?_)
            · exact absurd c44 (nI64 (by omega))
            · refine r_aload_n dX2_work_47 rfl ?_
              refine r_getR dX2_work_48 flX2_11 (tl_w _ ht) (by decide) rfl (tw_p0 hP _ ht) ?_
              refine r_iload_n dX2_work_51 rfl ?_
              refine r_ialv dX2_work_52 (tw_a0 _ ht) (vp_in_nI (by omega) (by omega)) (congrArg (I (t + 8)) (nI_clamp (by omega))) ?_
              refine r_sipush (v := 10000) dX2_work_53 (by decide) ?_
              refine r_isub dX2_work_56 ?_
              refine r_istore4 dX2_work_57 rfl ?_
              refine r_iload dX2_work_59 rfl ?_
              refine r_bipush (v := 20) dX2_work_61 (by decide) ?_
              refine r_ic_ge 70 dX2_work_63 (by decide) (fun c63 => ?_) (fun c63 => ?_)
              · refine r_iload dX2_work_70 rfl ?_
                refine r_bipush (v := 22) dX2_work_72 (by decide) ?_
                refine r_ic_ne 81 dX2_work_74 (by decide) (fun c74 => ?_) (fun c74 => ?_)
                · refine r_iconst (v := 2) dX2_work_81 (by decide) ?_
                  refine r_istore5 dX2_work_82 rfl ?_
                  refine r_iload_n dX2_work_84 rfl ?_
                  refine r_iload dX2_work_85 rfl ?_
                  refine r_ic_lt 99 dX2_work_87 (by decide) (fun c87 => ?_) (fun c87 => ?_)
                  · refine r_ldc2_w dX2_work_99 kcX2_37 ?_
                    exact r_lretq dX2_work_102 rfl ⟨by rw [wRun_n (wSt_C1 hk hk2)], J1, rfl, hJ⟩
                  · exact absurd (by show nI 1 < nI 2; exact nI_lt (by omega) (by omega)) c87
                · exact absurd c74 hk2
              · exact absurd (Int32.not_le.mp c63) hk
        | z :: x :: r, hl, hst =>
          refine r_iload_n dX2_work_31 rfl ?_
          refine r_aload_n dX2_work_32 rfl ?_
          refine r_getR dX2_work_33 flX2_20 (tl_w _ ht) (by decide) rfl (tw_p2 hP _ ht) ?_
          refine r_iload_n dX2_work_36 rfl ?_
          refine r_ialv dX2_work_37 (tw_a2 _ ht) hk3 he ?_
          refine r_ic_ge 215 dX2_work_38 (by decide) (fun c38 => ?_) (fun c38 => ?_)
          · exact absurd c38 (nI_ge (by omega) (by omega))
          · refine r_iload_n dX2_work_41 rfl ?_
            refine r_bipush (v := 64) dX2_work_42 (by decide) ?_
            refine r_ic_ge 215 dX2_work_44 (by decide) (fun c44 => ?_) (fun c44 => ?_)
            · exact absurd c44 (nI64 (by omega))
            · refine r_aload_n dX2_work_47 rfl ?_
              refine r_getR dX2_work_48 flX2_11 (tl_w _ ht) (by decide) rfl (tw_p0 hP _ ht) ?_
              refine r_iload_n dX2_work_51 rfl ?_
              refine r_ialv dX2_work_52 (tw_a0 _ ht) (vp_in_nI (by omega) (by omega)) (congrArg (I (t + 8)) (nI_clamp (by omega))) ?_
              refine r_sipush (v := 10000) dX2_work_53 (by decide) ?_
              refine r_isub dX2_work_56 ?_
              refine r_istore4 dX2_work_57 rfl ?_
              refine r_iload dX2_work_59 rfl ?_
              refine r_bipush (v := 20) dX2_work_61 (by decide) ?_
              refine r_ic_ge 70 dX2_work_63 (by decide) (fun c63 => ?_) (fun c63 => ?_)
              · refine r_iload dX2_work_70 rfl ?_
                refine r_bipush (v := 22) dX2_work_72 (by decide) ?_
                refine r_ic_ne 81 dX2_work_74 (by decide) (fun c74 => ?_) (fun c74 => ?_)
                · refine r_iconst (v := 2) dX2_work_81 (by decide) ?_
                  refine r_istore5 dX2_work_82 rfl ?_
                  refine r_iload_n dX2_work_84 rfl ?_
                  refine r_iload dX2_work_85 rfl ?_
                  refine r_ic_lt 99 dX2_work_87 (by decide) (fun c87 => ?_) (fun c87 => ?_)
                  · exact absurd c87 (nI_nlt (a := r.length + 2) (b := 2) (by omega) (by simp only [List.length_cons] at *; omega))
                  · refine r_iload_n dX2_work_90 rfl ?_
                    refine r_iload dX2_work_91 rfl ?_
                    refine r_isub dX2_work_93 ?_
                    refine r_bipush (v := 64) dX2_work_94 (by decide) ?_
                    refine r_ic_lt 103 dX2_work_96 (by decide) (fun c96 => ?_) (fun c96 => ?_)
                    · refine r_iload_n dX2_work_103 rfl ?_
                      refine r_iload dX2_work_104 rfl ?_
                      refine r_isub dX2_work_106 ?_
                      refine r_istore_n2 dX2_work_107 rfl ?_
                      refine r_iload dX2_work_108 rfl ?_
                      refine r_if_ne 128 dX2_work_110 (by decide) (fun c110 => ?_) (fun c110 => ?_)
                      · refine r_iload dX2_work_128 rfl ?_
                        refine r_iconst (v := 1) dX2_work_130 (by decide) ?_
                        refine r_ic_ne 155 dX2_work_131 (by decide) (fun c131 => ?_) (fun c131 => ?_)
                        · refine r_iload dX2_work_155 rfl ?_
                          refine r_aload_n dX2_work_157 rfl ?_
                          refine r_getR dX2_work_158 flX2_27 (tl_w _ ht) (by decide) rfl (tw_p4 hP _ ht) ?_
                          refine r_iload_n dX2_work_161 rfl ?_
                          refine r_lalv dX2_work_162 (tw_a4 _ ht) (by show vp_in (nI (r.length + 2) - 2) 64; rw [nI_m2]; exact vp_in_nI (by simp only [List.length_cons] at *; omega) (by omega)) ((congrArg (J1 (t + 12)) (by show (nI (r.length + 2) - 2).toNatClampNeg = _; rw [nI_m2]; exact nI_clamp (by simp only [List.length_cons] at *; omega))).trans (stk_top (stk_pop hst))) ?_
                          refine r_aload_n dX2_work_163 rfl ?_
                          refine r_getR dX2_work_164 flX2_27 (tl_w _ ht) (by decide) rfl (tw_p4 hP _ ht) ?_
                          refine r_iload_n dX2_work_167 rfl ?_
                          refine r_iconst (v := 1) dX2_work_168 (by decide) ?_
                          refine r_iadd dX2_work_169 ?_
                          refine r_lalv dX2_work_170 (tw_a4 _ ht) (by show vp_in (nI (r.length + 2) - 2 + 1) 64; rw [nI_m2, nI_1]; exact vp_in_nI (by simp only [List.length_cons] at *; omega) (by omega)) ((congrArg (J1 (t + 12)) (by show (nI (r.length + 2) - 2 + 1).toNatClampNeg = _; rw [nI_m2, nI_1]; exact nI_clamp (by simp only [List.length_cons] at *; omega))).trans (stk_top (r := x :: r) hst)) ?_
                          refine r_cS3l dX2_work_171 slX2_45 (Nat.le_of_ble_eq_true rfl) (k_joined _ _ _ d) ?_
                          refine r_lstore6 dX2_work_174 rfl ?_
                          refine r_lload dX2_work_176 rfl ?_
                          refine r_ldc2_w dX2_work_178 kcX2_49 ?_
                          refine r_lcmp dX2_work_181 ?_
                          refine r_if_gt 194 dX2_work_182 (by decide) (fun c182 => ?_) (fun c182 => ?_)
                          · refine r_ldc2_w dX2_work_194 kcX2_37 ?_
                            exact r_lretq dX2_work_197 rfl ⟨by rw [wRun_n ((wSt_C hk hk2).trans (wCk_n (Or.inl ((lg_cmp_gt _ _).mp c182))))], J1, rfl, hJ⟩
                          · refine r_lload dX2_work_185 rfl ?_
                            refine r_ldc2_w dX2_work_187 kcX2_51 ?_
                            refine r_lcmp dX2_work_190 ?_
                            refine r_if_ge 198 dX2_work_191 (by decide) (fun c191 => ?_) (fun c191 => ?_)
                            · refine r_aload_n dX2_work_198 rfl ?_
                              refine r_getR dX2_work_199 flX2_27 (tl_w _ ht) (by decide) rfl (tw_p4 hP _ ht) ?_
                              refine r_iload_n dX2_work_202 rfl ?_
                              refine r_lload dX2_work_203 rfl ?_
                              refine r_lasv dX2_work_205 (tw_a4 _ ht) (by show vp_in (nI (r.length + 2) - 2) 64; rw [nI_m2]; exact vp_in_nI (by simp only [List.length_cons] at *; omega) (by omega)) (congrArg (fun q => xu J1 (t + 12) q _) (by show (nI (r.length + 2) - 2).toNatClampNeg = r.length; rw [nI_m2]; exact nI_clamp (by simp only [List.length_cons] at *; omega))) ?_
                              refine r_iinc2 (v := 1) dX2_work_206 (by decide) rfl ?_
                              refine r_iinc3 (v := 1) dX2_work_209 (by decide) rfl ?_
                              refine r_goto 31 dX2_work_212 (by decide) ?_
                              rw [wRun_s ((wSt_C hk hk2).trans (wCk_s (fun q => c182 ((lg_cmp_gt _ _).mpr q)) (Int64.not_lt.mpr ((lg_cmp_ge _ _).mp c191))))]; exact W31 (by show nI (r.length + 2) - 2 + 1 = nI (r.length + 1); rw [nI_m2, nI_1]) (nI_1 p) (ih (p + 1) _ _ _ _ _ _ (by omega) (by simp only [List.length_cons] at *; omega) (stk_push _ (stk_pop (stk_pop hst))) (fun a k h => by rw [xu_f _ _ h]; exact hJ a k h) (xu_ff _ _ (by omega)))
                            · refine r_ldc2_w dX2_work_194 kcX2_37 ?_
                              exact r_lretq dX2_work_197 rfl ⟨by rw [wRun_n ((wSt_C hk hk2).trans (wCk_n (Or.inr (Int64.not_le.mp (fun q => c191 ((lg_cmp_ge _ _).mpr q))))))], J1, rfl, hJ⟩
                        · exact absurd c131 (by decide)
                      · exact absurd c110 (by decide)
                    · exact absurd (by show nI (r.length + 2) - 2 < 64; rw [nI_m2]; exact nI_lt64 (by simp only [List.length_cons] at *; omega)) c96
                · exact absurd c74 hk2
              · exact absurd (Int32.not_le.mp c63) hk
theorem k_work {E : xCl} {ex : Bool} {I : Nat → Nat → Int32} {J : Nat → Nat → Int64} {P : Nat → Nat → Nat} (hP : Pok P) {t : Nat} (ht : t ∈ TL) {lw : Int32} (hk3 : vp_in lw 3) (hok : LwOk I t lw.toNatClampNeg) (d : Nat) : ∃ J', xEx E ex (d + 2) yX2_work [.ref (t + 7), .int lw] (SH, I, J, P) (some (.long (Lv I t lw.toNatClampNeg (J (t + 11))))) (SH, I, J', P) ∧ Jbut J J' t := by
  have key : ∃ r S', xEx E ex (d + 1 + 1) yX2_work [.ref (t + 7), .int lw] (SH, I, J, P) r S' ∧ Qw I J P t (Lv I t lw.toNatClampNeg (J (t + 11))) r S' := by
    refine x_enterq cqX2_work [some (.ref (t + 7)), some (.int lw), none, none, none, none, none, none] rfl (by simp [lg_sl, Value.category]) ?_
    have hs : I (t + 9) lw.toNatClampNeg = I (t + 9) lw.toNatClampNeg := rfl
    have WL : 0 ≤ I (t + 9) lw.toNatClampNeg → xR (xEx E ex (d + 1)) ex none yX2_work cX2_work (some .long) 31 [some (.ref (t + 7)), some (.int lw), some (.int 0), some (.int (I (t + 9) lw.toNatClampNeg)), none, none, none, none] [] (SH, I, J, P) (Qw I J P t (Lv I t lw.toNatClampNeg (J (t + 11)))) := by
      intro h0
      rcases hok with h1 | ⟨s, e, h1, h2, h3, h4⟩
      · rw [h1] at h0; exact absurd h0 (by decide)
      · have := l_work (E := E) (ex := ex) (J := J) hP ht hk3 h2 h4 d (e - s) s [] J none none none none (by omega) (by simp) (fun q h => by simp at h) (fun _ _ _ => rfl) rfl
        rw [Lv, if_neg (by rw [h1]; exact nI_pos (by omega)), h1, h2, nI_clamp (by omega), nI_clamp (by omega)]
        exact this
    refine r_iload_n dX2_work_0 rfl ?_
    refine r_if_lt 18 dX2_work_1 (by decide) (fun c1 => ?_) (fun c1 => ?_)
    · exact absurd c1 (fun q => hk3 (Or.inl q))
    · refine r_iload_n dX2_work_4 rfl ?_
      refine r_iconst (v := 3) dX2_work_5 (by decide) ?_
      refine r_ic_ge 18 dX2_work_6 (by decide) (fun c6 => ?_) (fun c6 => ?_)
      · exact absurd c6 (fun q => hk3 (Or.inr (by rw [Int32.le_iff_toInt_le] at q; have e3 : (3 : Int32).toInt = 3 := rfl; rw [e3] at q; show 3 ≤ lw.toInt.toNat; omega)))
      · refine r_aload_n dX2_work_9 rfl ?_
        refine r_getR dX2_work_10 flX2_17 (tl_w _ ht) (by decide) rfl (tw_p1 hP _ ht) ?_
        refine r_iload_n dX2_work_13 rfl ?_
        refine r_ialv dX2_work_14 (tw_a1 _ ht) hk3 hs ?_
        refine r_if_ge 22 dX2_work_15 (by decide) (fun c15 => ?_) (fun c15 => ?_)
        · refine r_iconst (v := 0) dX2_work_22 (by decide) ?_
          refine r_istore_n2 dX2_work_23 rfl ?_
          refine r_aload_n dX2_work_24 rfl ?_
          refine r_getR dX2_work_25 flX2_17 (tl_w _ ht) (by decide) rfl (tw_p1 hP _ ht) ?_
          refine r_iload_n dX2_work_28 rfl ?_
          refine r_ialv dX2_work_29 (tw_a1 _ ht) hk3 hs ?_
          refine r_istore_n3 dX2_work_30 rfl ?_
          exact WL c15
        · refine r_ldc2_w dX2_work_18 kcX2_37 ?_
          exact r_lretq dX2_work_21 rfl ⟨by rw [Lv, if_pos (Int32.not_le.mp c15)], J, rfl, fun _ _ _ => rfl⟩
  obtain ⟨r, S', h1, h2, J', h3, h4⟩ := key
  subst h2; subst h3
  exact ⟨J', h1, h4⟩
