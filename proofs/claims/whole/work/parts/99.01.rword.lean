/-! the reference: which word -/
/-- the row of words, from a place on -/
def rRow (f : Nat → Int32) : Nat → List (List Nat) → Prop
  | m, [] => m = 117
  | m, w :: ws => (∀ i, ∀ h : i < w.length, f (m + i) = nI w[i] ∧ ¬ nI w[i] = 32) ∧ f (m + w.length) = 32 ∧ m + w.length < 117 ∧ rRow f (m + w.length + 1) ws
def rWE (T : Nat → Int32) (a : Nat) (w : List Nat) : Prop := ∀ i, ∀ h : i < w.length, nI w[i] = T (a + i)
noncomputable def rWk (T : Nat → Int32) (a n : Nat) : List (List Nat) → Nat → Int32
  | [], _ => -1
  | w :: ws, m => @ite _ (w.length = n ∧ rWE T a w) (Classical.propDecidable _) (nI m) (rWk T a n ws (m + 1))
theorem rWk_t {T : Nat → Int32} {a n : Nat} {w : List Nat} {ws : List (List Nat)} {m : Nat} (h : w.length = n ∧ rWE T a w) : rWk T a n (w :: ws) m = nI m := by rw [rWk]; exact @if_pos _ (Classical.propDecidable _) h _ _ _
theorem rWk_f {T : Nat → Int32} {a n : Nat} {w : List Nat} {ws : List (List Nat)} {m : Nat} (h : ¬ (w.length = n ∧ rWE T a w)) : rWk T a n (w :: ws) m = rWk T a n ws (m + 1) := by rw [rWk]; exact @if_neg _ (Classical.propDecidable _) h _ _ _
theorem l_word1 {E : xCl} {ex : Bool} {I : Nat → Nat → Int32} {J : Nat → Nat → Int64} {P : Nat → Nat → Nat} (hP : Pok P) (d : Nat) {s i k w0 at2 : Int32} {a b c m : Nat} {Q : Option Value → xS → Prop} {w : List Nat} (hw : ∀ i, ∀ h : i < w.length, I 349 (m + i) = nI w[i] ∧ ¬ nI w[i] = 32) (hw2 : I 349 (m + w.length) = 32) (hm : m + w.length < 117) (u6 u7 : Option Value) (K : xR (xEx E ex d) ex none yX11_wordAt cX11_wordAt (some .int) 39 [some (.ref 347), some (.int (nI a)), some (.int (nI b)), some (.int (nI c)), some (.int (nI m)), some (.int (nI w.length)), u6, u7] [] (SH, wQ I s i k w0 at2, J, P) Q) : ∀ j, j ≤ w.length → xR (xEx E ex d) ex none yX11_wordAt cX11_wordAt (some .int) 18 [some (.ref 347), some (.int (nI a)), some (.int (nI b)), some (.int (nI c)), some (.int (nI m)), some (.int (nI j)), u6, u7] [] (SH, wQ I s i k w0 at2, J, P) Q := by
  refine r_for (fun j => xR (xEx E ex d) ex none yX11_wordAt cX11_wordAt (some .int) 18 [some (.ref 347), some (.int (nI a)), some (.int (nI b)), some (.int (nI c)), some (.int (nI m)), some (.int (nI j)), u6, u7] [] (SH, wQ I s i k w0 at2, J, P) Q) _ ?_ ?_
  · intro j hj ih
    refine r_aload_n dX11_wordAt_18 rfl ?_
    refine r_getR dX11_wordAt_19 flX11_13 sh_347 (by decide) rfl (pf_347_3 hP) ?_
    refine r_iload dX11_wordAt_22 rfl ?_
    refine r_iload dX11_wordAt_24 rfl ?_
    refine r_iadd dX11_wordAt_26 ?_
    refine r_ialv dX11_wordAt_27 sh_349 (by rw [nI_add]; exact vp_in_nI (n := m + j) (by omega) (by decide)) ((wQ_o _ _ _ _ _ _ (by decide) _).trans ((congrArg (I 349) ((congrArg Int32.toNatClampNeg (nI_add m j)).trans (nI_clamp (n := m + j) (by omega)))).trans (hw j hj).1)) ?_
    refine r_bipush (v := 32) dX11_wordAt_28 (by decide) ?_
    refine r_ic_eq 39 dX11_wordAt_30 (by decide) (fun c30 => ?_) (fun c30 => ?_)
    · exact absurd c30 (hw j hj).2
    · refine r_iinc5 (v := 1) dX11_wordAt_33 (by decide) rfl ?_
      refine r_goto 18 dX11_wordAt_36 (by decide) ?_
      rw [nI_1]; exact ih
  · refine r_aload_n dX11_wordAt_18 rfl ?_
    refine r_getR dX11_wordAt_19 flX11_13 sh_347 (by decide) rfl (pf_347_3 hP) ?_
    refine r_iload dX11_wordAt_22 rfl ?_
    refine r_iload dX11_wordAt_24 rfl ?_
    refine r_iadd dX11_wordAt_26 ?_
    refine r_ialv dX11_wordAt_27 sh_349 (by rw [nI_add]; exact vp_in_nI (n := m + w.length) (by omega) (by decide)) ((wQ_o _ _ _ _ _ _ (by decide) _).trans ((congrArg (I 349) ((congrArg Int32.toNatClampNeg (nI_add m w.length)).trans (nI_clamp (n := m + w.length) (by omega)))).trans hw2)) ?_
    refine r_bipush (v := 32) dX11_wordAt_28 (by decide) ?_
    refine r_ic_eq 39 dX11_wordAt_30 (by decide) (fun c30 => ?_) (fun c30 => ?_)
    · exact K
    · exact absurd rfl c30
theorem l_word0 {E : xCl} {ex : Bool} {I : Nat → Nat → Int32} {J : Nat → Nat → Int64} {P : Nat → Nat → Nat} (hP : Pok P) (d : Nat) {s i k w0 at2 : Int32} {a b c m : Nat} {Q : Option Value → xS → Prop} (n : Int32) (q : Int32) (K : xR (xEx E ex d) ex none yX11_wordAt cX11_wordAt (some .int) 104 [some (.ref 347), some (.int (nI a)), some (.int (nI b)), some (.int (nI c)), some (.int (nI m)), some (.int n), some (.int 0), some (.int q)] [] (SH, wQ I s i k w0 at2, J, P) Q) : xR (xEx E ex d) ex none yX11_wordAt cX11_wordAt (some .int) 57 [some (.ref 347), some (.int (nI a)), some (.int (nI b)), some (.int (nI c)), some (.int (nI m)), some (.int n), some (.int 0), some (.int q)] [] (SH, wQ I s i k w0 at2, J, P) Q := by
  refine r_iload dX11_wordAt_57 rfl ?_
  refine r_iload dX11_wordAt_59 rfl ?_
  refine r_ic_ge 104 dX11_wordAt_61 (by decide) (fun c61 => ?_) (fun c61 => ?_)
  · exact K
  · refine r_iload dX11_wordAt_64 rfl ?_
    refine r_if_eq 104 dX11_wordAt_66 (by decide) (fun c66 => ?_) (fun c66 => ?_)
    · exact K
    · exact absurd c66 (by decide)
theorem l_word2 {E : xCl} {ex : Bool} {I : Nat → Nat → Int32} {J : Nat → Nat → Int64} {P : Nat → Nat → Nat} (hP : Pok P) (d : Nat) {s i k w0 at2 : Int32} {a b c m : Nat} {Q : Option Value → xS → Prop} {w : List Nat} (hw : ∀ i, ∀ h : i < w.length, I 349 (m + i) = nI w[i] ∧ ¬ nI w[i] = 32) (hm : m + w.length < 117) (ha : a + w.length ≤ 700) (K1 : rWE (I 348) a w → xR (xEx E ex d) ex none yX11_wordAt cX11_wordAt (some .int) 104 [some (.ref 347), some (.int (nI a)), some (.int (nI b)), some (.int (nI c)), some (.int (nI m)), some (.int (nI w.length)), some (.int 1), some (.int (nI w.length))] [] (SH, wQ I s i k w0 at2, J, P) Q) (K0 : ¬ rWE (I 348) a w → ∀ q, xR (xEx E ex d) ex none yX11_wordAt cX11_wordAt (some .int) 104 [some (.ref 347), some (.int (nI a)), some (.int (nI b)), some (.int (nI c)), some (.int (nI m)), some (.int (nI w.length)), some (.int 0), some (.int q)] [] (SH, wQ I s i k w0 at2, J, P) Q) : ∀ q, q ≤ w.length → (∀ i, ∀ h : i < w.length, i < q → nI w[i] = I 348 (a + i)) → xR (xEx E ex d) ex none yX11_wordAt cX11_wordAt (some .int) 57 [some (.ref 347), some (.int (nI a)), some (.int (nI b)), some (.int (nI c)), some (.int (nI m)), some (.int (nI w.length)), some (.int 1), some (.int (nI q))] [] (SH, wQ I s i k w0 at2, J, P) Q := by
  refine r_for (fun q => (∀ i, ∀ h : i < w.length, i < q → nI w[i] = I 348 (a + i)) → xR (xEx E ex d) ex none yX11_wordAt cX11_wordAt (some .int) 57 [some (.ref 347), some (.int (nI a)), some (.int (nI b)), some (.int (nI c)), some (.int (nI m)), some (.int (nI w.length)), some (.int 1), some (.int (nI q))] [] (SH, wQ I s i k w0 at2, J, P) Q) _ ?_ ?_
  · intro q hj ih hq
    refine r_iload dX11_wordAt_57 rfl ?_
    refine r_iload dX11_wordAt_59 rfl ?_
    refine r_ic_ge 104 dX11_wordAt_61 (by decide) (fun c61 => ?_) (fun c61 => ?_)
    · exact absurd c61 (nI_ge hj (by omega))
    · refine r_iload dX11_wordAt_64 rfl ?_
      refine r_if_eq 104 dX11_wordAt_66 (by decide) (fun c66 => ?_) (fun c66 => ?_)
      · exact absurd c66 (by decide)
      · refine r_aload_n dX11_wordAt_69 rfl ?_
        refine r_getR dX11_wordAt_70 flX11_13 sh_347 (by decide) rfl (pf_347_3 hP) ?_
        refine r_iload dX11_wordAt_73 rfl ?_
        refine r_iload dX11_wordAt_75 rfl ?_
        refine r_iadd dX11_wordAt_77 ?_
        refine r_ialv dX11_wordAt_78 sh_349 (by rw [nI_add]; exact vp_in_nI (n := m + q) (by omega) (by decide)) ((wQ_o _ _ _ _ _ _ (by decide) _).trans ((congrArg (I 349) ((congrArg Int32.toNatClampNeg (nI_add m q)).trans (nI_clamp (n := m + q) (by omega)))).trans (hw q hj).1)) ?_
        refine r_aload_n dX11_wordAt_79 rfl ?_
        refine r_getR dX11_wordAt_80 flX11_7 sh_347 (by decide) rfl (pf_347_0 hP) ?_
        refine r_iload_n dX11_wordAt_83 rfl ?_
        refine r_iload dX11_wordAt_84 rfl ?_
        refine r_iadd dX11_wordAt_86 ?_
        refine r_ialv dX11_wordAt_87 sh_348 (by rw [nI_add]; exact vp_in_nI (n := a + q) (by omega) (by decide)) ((wQ_o _ _ _ _ _ _ (by decide) _).trans (congrArg (I 348) ((congrArg Int32.toNatClampNeg (nI_add a q)).trans (nI_clamp (n := a + q) (by omega))))) ?_
        refine r_ic_ne 95 dX11_wordAt_88 (by decide) (fun c88 => ?_) (fun c88 => ?_)
        · refine r_iconst (v := 0) dX11_wordAt_95 (by decide) ?_
          refine r_istore6 dX11_wordAt_96 rfl ?_
          refine r_iinc7 (v := 1) dX11_wordAt_98 (by decide) rfl ?_
          refine r_goto 57 dX11_wordAt_101 (by decide) ?_
          rw [nI_1]; exact l_word0 hP d _ _ (K0 (fun z => c88 (z q hj)) _)
        · refine r_iconst (v := 1) dX11_wordAt_91 (by decide) ?_
          refine r_goto 96 dX11_wordAt_92 (by decide) ?_
          refine r_istore6 dX11_wordAt_96 rfl ?_
          refine r_iinc7 (v := 1) dX11_wordAt_98 (by decide) rfl ?_
          refine r_goto 57 dX11_wordAt_101 (by decide) ?_
          rw [nI_1]; exact ih (fun i h h2 => by rcases Nat.lt_succ_iff_lt_or_eq.mp h2 with h3 | h3; exact hq i h h3; subst h3; exact c88)
  · intro hq
    refine r_iload dX11_wordAt_57 rfl ?_
    refine r_iload dX11_wordAt_59 rfl ?_
    refine r_ic_ge 104 dX11_wordAt_61 (by decide) (fun c61 => ?_) (fun c61 => ?_)
    · exact K1 (fun i h => hq i h h)
    · exact absurd (nI_le (Nat.le_refl _) (by omega)) c61
set_option maxHeartbeats 1000000 in
theorem l_wordAt {E : xCl} {ex : Bool} {I : Nat → Nat → Int32} {J : Nat → Nat → Int64} {P : Nat → Nat → Nat} (hP : Pok P) (d : Nat) {s i k w0 at2 : Int32} {a b : Nat} (hab : a ≤ b) (hb : b ≤ 700) : ∀ ws c m, rRow (I 349) m ws → ∀ u5 u6 u7, xR (xEx E ex d) ex none yX11_wordAt cX11_wordAt (some .int) 5 [some (.ref 347), some (.int (nI a)), some (.int (nI b)), some (.int (nI c)), some (.int (nI m)), u5, u6, u7] [] (SH, wQ I s i k w0 at2, J, P) (xEq (some (.int (rWk (I 348) a (b - a) ws c))) (SH, wQ I s i k w0 at2, J, P)) := by
  intro ws
  induction ws with
  | nil =>
    intro c m hr u5 u6 u7
    change m = 117 at hr
    refine r_iload dX11_wordAt_5 rfl ?_
    refine r_aload_n dX11_wordAt_7 rfl ?_
    refine r_getR dX11_wordAt_8 flX11_13 sh_347 (by decide) rfl (pf_347_3 hP) ?_
    refine r_alen dX11_wordAt_11 sh_349 ?_
    refine r_ic_ge 126 dX11_wordAt_12 (by decide) (fun c12 => ?_) (fun c12 => ?_)
    · refine r_iconst (v := (-1)) dX11_wordAt_126 (by decide) ?_
      exact r_iret dX11_wordAt_127 rfl rfl rfl rfl
    · exact absurd (by rw [hr]; decide) c12
  | cons w ws ih =>
    intro c m hr u5 u6 u7
    change _ ∧ _ ∧ _ ∧ _ at hr
    have hr3 := hr.2.2.1
    refine r_iload dX11_wordAt_5 rfl ?_
    refine r_aload_n dX11_wordAt_7 rfl ?_
    refine r_getR dX11_wordAt_8 flX11_13 sh_347 (by decide) rfl (pf_347_3 hP) ?_
    refine r_alen dX11_wordAt_11 sh_349 ?_
    refine r_ic_ge 126 dX11_wordAt_12 (by decide) (fun c12 => ?_) (fun c12 => ?_)
    · exact absurd c12 (nI_ge (a := m) (b := 117) (by omega) (by decide))
    · refine r_iconst (v := 0) dX11_wordAt_15 (by decide) ?_
      refine r_istore5 dX11_wordAt_16 rfl ?_
      refine l_word1 hP d hr.1 hr.2.1 hr.2.2.1 u6 u7 ?_ 0 (Nat.zero_le _)
      refine r_iload dX11_wordAt_39 rfl ?_
      refine r_iload_n dX11_wordAt_41 rfl ?_
      refine r_iload_n dX11_wordAt_42 rfl ?_
      refine r_isub dX11_wordAt_43 ?_
      rw [show nI b - nI a = nI (b - a) from pk_sub hab]
      refine r_ic_ne 51 dX11_wordAt_44 (by decide) (fun c44 => ?_) (fun c44 => ?_)
      · refine r_iconst (v := 0) dX11_wordAt_51 (by decide) ?_
        refine r_istore6 dX11_wordAt_52 rfl ?_
        refine r_iconst (v := 0) dX11_wordAt_54 (by decide) ?_
        refine r_istore7 dX11_wordAt_55 rfl ?_
        have hl : ¬ w.length = b - a := fun z => c44 (by rw [z])
        refine l_word0 hP d _ _ ?_
        refine r_iload dX11_wordAt_104 rfl ?_
        refine r_if_eq 111 dX11_wordAt_106 (by decide) (fun c106 => ?_) (fun c106 => ?_)
        · refine r_iload dX11_wordAt_111 rfl ?_
          refine r_iload dX11_wordAt_113 rfl ?_
          refine r_iconst (v := 1) dX11_wordAt_115 (by decide) ?_
          refine r_iadd dX11_wordAt_116 ?_
          refine r_iadd dX11_wordAt_117 ?_
          refine r_istore4 dX11_wordAt_118 rfl ?_
          refine r_iinc3 (v := 1) dX11_wordAt_120 (by decide) rfl ?_
          refine r_goto 5 dX11_wordAt_123 (by decide) ?_
          rw [nI_1, nI_1, nI_add, ← Nat.add_assoc, rWk_f (fun z => hl z.1)]; exact ih _ _ hr.2.2.2 _ _ _
        · exact absurd c106 (by decide)
      · refine r_iconst (v := 1) dX11_wordAt_47 (by decide) ?_
        refine r_goto 52 dX11_wordAt_48 (by decide) ?_
        refine r_istore6 dX11_wordAt_52 rfl ?_
        refine r_iconst (v := 0) dX11_wordAt_54 (by decide) ?_
        refine r_istore7 dX11_wordAt_55 rfl ?_
        have hl : w.length = b - a := (nI_eq (by omega) (by omega)).mp c44
        refine l_word2 hP d hr.1 hr.2.2.1 (by omega) (fun hE => ?_) (fun hE q => ?_) 0 (Nat.zero_le _) (fun i h h2 => absurd h2 (Nat.not_lt_zero _))
        · refine r_iload dX11_wordAt_104 rfl ?_
          refine r_if_eq 111 dX11_wordAt_106 (by decide) (fun c106 => ?_) (fun c106 => ?_)
          · exact absurd c106 (by decide)
          · refine r_iload_n dX11_wordAt_109 rfl ?_
            exact r_iret dX11_wordAt_110 rfl rfl (by rw [rWk_t ⟨hl, hE⟩]) rfl
        · refine r_iload dX11_wordAt_104 rfl ?_
          refine r_if_eq 111 dX11_wordAt_106 (by decide) (fun c106 => ?_) (fun c106 => ?_)
          · refine r_iload dX11_wordAt_111 rfl ?_
            refine r_iload dX11_wordAt_113 rfl ?_
            refine r_iconst (v := 1) dX11_wordAt_115 (by decide) ?_
            refine r_iadd dX11_wordAt_116 ?_
            refine r_iadd dX11_wordAt_117 ?_
            refine r_istore4 dX11_wordAt_118 rfl ?_
            refine r_iinc3 (v := 1) dX11_wordAt_120 (by decide) rfl ?_
            refine r_goto 5 dX11_wordAt_123 (by decide) ?_
            rw [nI_1, nI_1, nI_add, ← Nat.add_assoc, rWk_f (fun z => hE z.2)]; exact ih _ _ hr.2.2.2 _ _ _
          · exact absurd c106 (by decide)
set_option maxHeartbeats 1000000 in
theorem k_wordAt {E : xCl} {ex : Bool} {I : Nat → Nat → Int32} {J : Nat → Nat → Int64} {P : Nat → Nat → Nat} (hP : Pok P) {a b : Nat} (hab : a ≤ b) (hb : b ≤ 700) (ws : List (List Nat)) (hr : rRow (I 349) 0 ws) (s i k w0 at2 : Int32) (d : Nat) : xEx E ex (d + 1) yX11_wordAt [.ref 347, .int (nI a), .int (nI b)] (SH, wQ I s i k w0 at2, J, P) (some (.int (rWk (I 348) a (b - a) ws 0))) (SH, wQ I s i k w0 at2, J, P) := by
  refine x_enter cqX11_wordAt [some (.ref 347), some (.int (nI a)), some (.int (nI b)), none, none, none, none, none] rfl (by simp [lg_sl, Value.category]) ?_
  refine r_iconst (v := 0) dX11_wordAt_0 (by decide) ?_
  refine r_istore_n3 dX11_wordAt_1 rfl ?_
  refine r_iconst (v := 0) dX11_wordAt_2 (by decide) ?_
  refine r_istore4 dX11_wordAt_3 rfl ?_
  exact l_wordAt hP d hab hb ws 0 0 hr _ _ _
