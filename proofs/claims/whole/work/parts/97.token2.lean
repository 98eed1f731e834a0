/-! the class: tokens, whole -/
def cWords : List (List Nat) := [[112, 101, 114, 115, 111, 110], [100, 101, 98, 116], [116, 119, 105, 115, 116], [99, 114, 111, 115, 115], [112, 108, 97, 110, 107], [115, 101, 101, 100], [108, 97, 119], [101, 97, 115, 116], [119, 101, 115, 116], [98, 101, 97, 114], [102, 114, 97, 121], [114, 101, 110, 116], [112, 97, 105, 110, 116, 101, 100], [111, 119, 101, 100], [102, 114, 97, 121, 101, 100], [97, 103, 101], [100, 117, 101], [121, 101, 97, 114], [114, 105, 99, 104], [116, 119, 111], [97, 110, 100], [111, 114], [110, 111, 116]]
/-- a word stands at a place -/
def cEq (T : Nat → Int32) (s : Nat) : Nat → List Nat → Prop
  | _, [] => True
  | p, c :: w => p < s ∧ T p = nI c ∧ cEq T s (p + 1) w
/-- the number of the word of n letters that stands at a place -/
noncomputable def cWk (T : Nat → Int32) (s p n : Nat) : List (List Nat) → Nat → Int32
  | [], _ => -1
  | w :: ws, m => @ite _ (w.length = n ∧ cEq T s p w) (Classical.propDecidable _) (nI m) (cWk T s p n ws (m + 1))
/-- wordKind, from outside -/
def EW (E : xCl) : Prop := ∀ (I : Nat → Nat → Int32) (J : Nat → Nat → Int64) (P : Nat → Nat → Nat) (s p n : Nat) (i k v : Int32), Pok P → s ≤ 700 → p ≤ s → n ≤ 700 → E yX8_wordKind [.ref 28, .int (nI n)] (SH, wK I (nI s) i (nI p) k v, J, P) (some (.int (cWk (I 1) s p n cWords 0))) (SH, wK I (nI s) i (nI p) k v, J, P)
theorem x_out {E : xCl} {ex : Bool} {d : Nat} {y : MethodName} {vs : List Value} {S S1 : xS} {r : Option Value} (h : E y vs S r S1) : xEx E ex (d + 1) y vs S r S1 := Or.inr (Or.inl h)
def cWo (T : Nat → Int32) : Nat → Nat → Nat → Int32 → Nat × Nat × Int32
  | 0, i, n, v => (i, n, v)
  | c + 1, i, n, v => if cLt (T i) then cWo T c (i + 1) (n + 1) (if 6 ≤ nI n then v else (v <<< (5 &&& 31)) ||| (T i - 97 + 1)) else (i, n, v)
theorem cWo_n (T : Nat → Int32) : ∀ c i n v, (cWo T c i n v).2.1 ≤ n + c := by
  intro c
  induction c with
  | zero => intro i n v; exact Nat.le_refl _
  | succ c ih =>
    intro i n v
    rw [cWo]
    split
    · exact Nat.le_trans (ih _ _ _) (by omega)
    · exact Nat.le_add_right _ _
def cKd (w : Int32) (n : Nat) : Int32 := if w = -1 then (if 6 < nI n then 39 else 37) else w
def cVl (n : Nat) (v : Int32) : Int32 := if 6 ≤ nI n then v else v <<< ((5 * (6 - nI n)) &&& 31)
set_option maxHeartbeats 1000000 in
theorem l_readWord {E : xCl} {ex : Bool} {I : Nat → Nat → Int32} {J : Nat → Nat → Int64} {P : Nat → Nat → Nat} (hP : Pok P) {s : Nat} (hs : s ≤ 700) (p k : Int32) (d : Nat) {Q : Option Value → xS → Prop} : ∀ c i n v, i + c = s → xR (xEx E ex (d + 1)) ex none yX8_readWord cX8_readWord none 80 [some (.ref 28), some (.int (nI (cWo (I 1) c i n v).2.1))] [] (SH, wK I (nI s) (nI (cWo (I 1) c i n v).1) p k (cWo (I 1) c i n v).2.2, J, P) Q → xR (xEx E ex (d + 1)) ex none yX8_readWord cX8_readWord none 7 [some (.ref 28), some (.int (nI n))] [] (SH, wK I (nI s) (nI i) p k v, J, P) Q := by
  intro c
  induction c with
  | zero =>
    intro i n v hi K
    refine r_aload_n dX8_readWord_7 rfl ?_
    refine r_getIv dX8_readWord_8 flX8_28 sh_28 (by decide) rfl (wK_2 _ _ _ _ _ _) ?_
    refine r_aload_n dX8_readWord_11 rfl ?_
    refine r_getIv dX8_readWord_12 flX8_24 sh_28 (by decide) rfl (wK_1 _ _ _ _ _ _) ?_
    refine r_ic_ge 80 dX8_readWord_15 (by decide) (fun c15 => ?_) (fun c15 => ?_)
    · exact K
    · exact absurd (nI_le (by omega) (by omega)) c15
  | succ c ih =>
    intro i n v hi K
    refine r_aload_n dX8_readWord_7 rfl ?_
    refine r_getIv dX8_readWord_8 flX8_28 sh_28 (by decide) rfl (wK_2 _ _ _ _ _ _) ?_
    refine r_aload_n dX8_readWord_11 rfl ?_
    refine r_getIv dX8_readWord_12 flX8_24 sh_28 (by decide) rfl (wK_1 _ _ _ _ _ _) ?_
    refine r_ic_ge 80 dX8_readWord_15 (by decide) (fun c15 => ?_) (fun c15 => ?_)
    · exact absurd c15 (nI_ge (a := i) (b := s) (by omega) (by omega))
    · refine r_aload_n dX8_readWord_18 rfl ?_
      refine r_getR dX8_readWord_19 flX8_9 sh_28 (by decide) rfl (pf_28_0 hP) ?_
      refine r_aload_n dX8_readWord_22 rfl ?_
      refine r_getIv dX8_readWord_23 flX8_28 sh_28 (by decide) rfl (wK_2 _ _ _ _ _ _) ?_
      refine r_balv dX8_readWord_26 sh_1 (vp_in_nI (n := i) (by omega) (by decide)) ((wK_o _ _ _ _ _ _ (by decide) _).trans (congrArg (I 1) (nI_clamp (n := i) (by omega)))) ?_
      by_cases h27 : cLt (I 1 i)
      · refine r_cS1i dX8_readWord_27 slX8_40 (Nat.le_of_ble_eq_true rfl) (k_cisLetter_t h27 d) ?_
        refine r_if_eq 80 dX8_readWord_30 (by decide) (fun c30 => ?_) (fun c30 => ?_)
        · exact absurd c30 (by decide)
        · refine r_iload_n dX8_readWord_33 rfl ?_
          refine r_bipush (v := 6) dX8_readWord_34 (by decide) ?_
          refine r_ic_ge 64 dX8_readWord_36 (by decide) (fun c36 => ?_) (fun c36 => ?_)
          · refine r_iinc1 (v := 1) dX8_readWord_64 (by decide) rfl ?_
            refine r_aload_n dX8_readWord_67 rfl ?_
            refine r_dup dX8_readWord_68 rfl ?_
            refine r_getIv dX8_readWord_69 flX8_28 sh_28 (by decide) rfl (wK_2 _ _ _ _ _ _) ?_
            refine r_iconst (v := 1) dX8_readWord_72 (by decide) ?_
            refine r_iadd dX8_readWord_73 ?_
            refine r_putIv dX8_readWord_74 flX8_28 ⟨_, _, _, rfl, Or.inl rfl⟩ sh_28 (by decide) rfl rfl rfl (wK_x2 _ _ _ _ _ _ _) ?_
            refine r_goto 7 dX8_readWord_77 (by decide) ?_
            rw [nI_1, nI_1]; rw [cWo, if_pos h27, if_pos c36] at K; exact ih (i + 1) (n + 1) _ (by omega) K
          · refine r_aload_n dX8_readWord_39 rfl ?_
            refine r_aload_n dX8_readWord_40 rfl ?_
            refine r_getIv dX8_readWord_41 flX8_56 sh_28 (by decide) rfl (wK_5 _ _ _ _ _ _) ?_
            refine r_iconst (v := 5) dX8_readWord_44 (by decide) ?_
            refine r_ishl dX8_readWord_45 ?_
            refine r_aload_n dX8_readWord_46 rfl ?_
            refine r_getR dX8_readWord_47 flX8_9 sh_28 (by decide) rfl (pf_28_0 hP) ?_
            refine r_aload_n dX8_readWord_50 rfl ?_
            refine r_getIv dX8_readWord_51 flX8_28 sh_28 (by decide) rfl (wK_2 _ _ _ _ _ _) ?_
            refine r_balv dX8_readWord_54 sh_1 (vp_in_nI (n := i) (by omega) (by decide)) ((wK_o _ _ _ _ _ _ (by decide) _).trans (congrArg (I 1) (nI_clamp (n := i) (by omega)))) ?_
            refine r_bipush (v := 97) dX8_readWord_55 (by decide) ?_
            refine r_isub dX8_readWord_57 ?_
            refine r_iconst (v := 1) dX8_readWord_58 (by decide) ?_
            refine r_iadd dX8_readWord_59 ?_
            refine r_ior dX8_readWord_60 ?_
            refine r_putIv dX8_readWord_61 flX8_56 ⟨_, _, _, rfl, Or.inl rfl⟩ sh_28 (by decide) rfl rfl rfl (wK_x5 _ _ _ _ _ _ _) ?_
            refine r_iinc1 (v := 1) dX8_readWord_64 (by decide) rfl ?_
            refine r_aload_n dX8_readWord_67 rfl ?_
            refine r_dup dX8_readWord_68 rfl ?_
            refine r_getIv dX8_readWord_69 flX8_28 sh_28 (by decide) rfl (wK_2 _ _ _ _ _ _) ?_
            refine r_iconst (v := 1) dX8_readWord_72 (by decide) ?_
            refine r_iadd dX8_readWord_73 ?_
            refine r_putIv dX8_readWord_74 flX8_28 ⟨_, _, _, rfl, Or.inl rfl⟩ sh_28 (by decide) rfl rfl rfl (wK_x2 _ _ _ _ _ _ _) ?_
            refine r_goto 7 dX8_readWord_77 (by decide) ?_
            rw [nI_1, nI_1]; rw [cWo, if_pos h27, if_neg c36] at K; exact ih (i + 1) (n + 1) _ (by omega) K
      · refine r_cS1i dX8_readWord_27 slX8_40 (Nat.le_of_ble_eq_true rfl) (k_cisLetter_f h27 d) ?_
        refine r_if_eq 80 dX8_readWord_30 (by decide) (fun c30 => ?_) (fun c30 => ?_)
        · rw [cWo, if_neg h27] at K; exact K
        · exact absurd c30 (by decide)
set_option maxHeartbeats 1000000 in
theorem l_readWord2 {E : xCl} {ex : Bool} {I : Nat → Nat → Int32} {J : Nat → Nat → Int64} {P : Nat → Nat → Nat} (hE : EW E) (hP : Pok P) {s : Nat} (hs : s ≤ 700) {p : Nat} (hp : p ≤ s) {n : Nat} (hn : n ≤ 700) (i k v : Int32) (d : Nat) : xR (xEx E ex (d + 1)) ex none yX8_readWord cX8_readWord none 80 [some (.ref 28), some (.int (nI n))] [] (SH, wK I (nI s) i (nI p) k v, J, P) (xEq none (SH, wK I (nI s) i (nI p) (cKd (cWk (I 1) s p n cWords 0) n) (cVl n v), J, P)) := by
  refine r_aload_n dX8_readWord_80 rfl ?_
  refine r_aload_n dX8_readWord_81 rfl ?_
  refine r_iload_n dX8_readWord_82 rfl ?_
  refine r_cV1i dX8_readWord_83 vlX8_59 sh_28 (Nat.le_of_ble_eq_true rfl) (x_out (hE I J P s p n _ _ _ hP hs hp hn)) ?_
  refine r_putIv dX8_readWord_86 flX8_37 ⟨_, _, _, rfl, Or.inl rfl⟩ sh_28 (by decide) rfl rfl rfl (wK_x4 _ _ _ _ _ _ _) ?_
  refine r_aload_n dX8_readWord_89 rfl ?_
  refine r_getIv dX8_readWord_90 flX8_37 sh_28 (by decide) rfl (wK_4 _ _ _ _ _ _) ?_
  refine r_iconst (v := (-1)) dX8_readWord_93 (by decide) ?_
  refine r_ic_ne 114 dX8_readWord_94 (by decide) (fun c94 => ?_) (fun c94 => ?_)
  · refine r_aload_n dX8_readWord_114 rfl ?_
    refine r_iload_n dX8_readWord_115 rfl ?_
    refine r_bipush (v := 6) dX8_readWord_116 (by decide) ?_
    refine r_ic_ge 135 dX8_readWord_118 (by decide) (fun c118 => ?_) (fun c118 => ?_)
    · refine r_aload_n dX8_readWord_135 rfl ?_
      refine r_getIv dX8_readWord_136 flX8_56 sh_28 (by decide) rfl (wK_5 _ _ _ _ _ _) ?_
      refine r_putIv dX8_readWord_139 flX8_56 ⟨_, _, _, rfl, Or.inl rfl⟩ sh_28 (by decide) rfl rfl rfl (wK_x5 _ _ _ _ _ _ _) ?_
      exact r_vret dX8_readWord_142 rfl rfl (by rw [cKd, if_neg c94, cVl, if_pos c118])
    · refine r_aload_n dX8_readWord_121 rfl ?_
      refine r_getIv dX8_readWord_122 flX8_56 sh_28 (by decide) rfl (wK_5 _ _ _ _ _ _) ?_
      refine r_iconst (v := 5) dX8_readWord_125 (by decide) ?_
      refine r_bipush (v := 6) dX8_readWord_126 (by decide) ?_
      refine r_iload_n dX8_readWord_128 rfl ?_
      refine r_isub dX8_readWord_129 ?_
      refine r_imul dX8_readWord_130 ?_
      refine r_ishl dX8_readWord_131 ?_
      refine r_goto 139 dX8_readWord_132 (by decide) ?_
      refine r_putIv dX8_readWord_139 flX8_56 ⟨_, _, _, rfl, Or.inl rfl⟩ sh_28 (by decide) rfl rfl rfl (wK_x5 _ _ _ _ _ _ _) ?_
      exact r_vret dX8_readWord_142 rfl rfl (by rw [cKd, if_neg c94, cVl, if_neg c118])
  · refine r_aload_n dX8_readWord_97 rfl ?_
    refine r_iload_n dX8_readWord_98 rfl ?_
    refine r_bipush (v := 6) dX8_readWord_99 (by decide) ?_
    refine r_ic_gt 109 dX8_readWord_101 (by decide) (fun c101 => ?_) (fun c101 => ?_)
    · refine r_bipush (v := 39) dX8_readWord_109 (by decide) ?_
      refine r_putIv dX8_readWord_111 flX8_37 ⟨_, _, _, rfl, Or.inl rfl⟩ sh_28 (by decide) rfl rfl rfl (wK_x4 _ _ _ _ _ _ _) ?_
      refine r_aload_n dX8_readWord_114 rfl ?_
      refine r_iload_n dX8_readWord_115 rfl ?_
      refine r_bipush (v := 6) dX8_readWord_116 (by decide) ?_
      refine r_ic_ge 135 dX8_readWord_118 (by decide) (fun c118 => ?_) (fun c118 => ?_)
      · refine r_aload_n dX8_readWord_135 rfl ?_
        refine r_getIv dX8_readWord_136 flX8_56 sh_28 (by decide) rfl (wK_5 _ _ _ _ _ _) ?_
        refine r_putIv dX8_readWord_139 flX8_56 ⟨_, _, _, rfl, Or.inl rfl⟩ sh_28 (by decide) rfl rfl rfl (wK_x5 _ _ _ _ _ _ _) ?_
        exact r_vret dX8_readWord_142 rfl rfl (by rw [cKd, if_pos c94, if_pos c101, cVl, if_pos c118])
      · refine r_aload_n dX8_readWord_121 rfl ?_
        refine r_getIv dX8_readWord_122 flX8_56 sh_28 (by decide) rfl (wK_5 _ _ _ _ _ _) ?_
        refine r_iconst (v := 5) dX8_readWord_125 (by decide) ?_
        refine r_bipush (v := 6) dX8_readWord_126 (by decide) ?_
        refine r_iload_n dX8_readWord_128 rfl ?_
        refine r_isub dX8_readWord_129 ?_
        refine r_imul dX8_readWord_130 ?_
        refine r_ishl dX8_readWord_131 ?_
        refine r_goto 139 dX8_readWord_132 (by decide) ?_
        refine r_putIv dX8_readWord_139 flX8_56 ⟨_, _, _, rfl, Or.inl rfl⟩ sh_28 (by decide) rfl rfl rfl (wK_x5 _ _ _ _ _ _ _) ?_
        exact r_vret dX8_readWord_142 rfl rfl (by rw [cKd, if_pos c94, if_pos c101, cVl, if_neg c118])
    · refine r_bipush (v := 37) dX8_readWord_104 (by decide) ?_
      refine r_goto 111 dX8_readWord_106 (by decide) ?_
      refine r_putIv dX8_readWord_111 flX8_37 ⟨_, _, _, rfl, Or.inl rfl⟩ sh_28 (by decide) rfl rfl rfl (wK_x4 _ _ _ _ _ _ _) ?_
      refine r_aload_n dX8_readWord_114 rfl ?_
      refine r_iload_n dX8_readWord_115 rfl ?_
      refine r_bipush (v := 6) dX8_readWord_116 (by decide) ?_
      refine r_ic_ge 135 dX8_readWord_118 (by decide) (fun c118 => ?_) (fun c118 => ?_)
      · refine r_aload_n dX8_readWord_135 rfl ?_
        refine r_getIv dX8_readWord_136 flX8_56 sh_28 (by decide) rfl (wK_5 _ _ _ _ _ _) ?_
        refine r_putIv dX8_readWord_139 flX8_56 ⟨_, _, _, rfl, Or.inl rfl⟩ sh_28 (by decide) rfl rfl rfl (wK_x5 _ _ _ _ _ _ _) ?_
        exact r_vret dX8_readWord_142 rfl rfl (by rw [cKd, if_pos c94, if_neg c101, cVl, if_pos c118])
      · refine r_aload_n dX8_readWord_121 rfl ?_
        refine r_getIv dX8_readWord_122 flX8_56 sh_28 (by decide) rfl (wK_5 _ _ _ _ _ _) ?_
        refine r_iconst (v := 5) dX8_readWord_125 (by decide) ?_
        refine r_bipush (v := 6) dX8_readWord_126 (by decide) ?_
        refine r_iload_n dX8_readWord_128 rfl ?_
        refine r_isub dX8_readWord_129 ?_
        refine r_imul dX8_readWord_130 ?_
        refine r_ishl dX8_readWord_131 ?_
        refine r_goto 139 dX8_readWord_132 (by decide) ?_
        refine r_putIv dX8_readWord_139 flX8_56 ⟨_, _, _, rfl, Or.inl rfl⟩ sh_28 (by decide) rfl rfl rfl (wK_x5 _ _ _ _ _ _ _) ?_
        exact r_vret dX8_readWord_142 rfl rfl (by rw [cKd, if_pos c94, if_neg c101, cVl, if_neg c118])
set_option maxHeartbeats 1000000 in
theorem k_readWord {E : xCl} {ex : Bool} {I : Nat → Nat → Int32} {J : Nat → Nat → Int64} {P : Nat → Nat → Nat} (hE : EW E) (hP : Pok P) {s : Nat} (hs : s ≤ 700) {i : Nat} (hi : i < s) {p : Nat} (hp : p ≤ s) (k v : Int32) (d : Nat) : xEx E ex (d + 2) yX8_readWord [.ref 28] (SH, wK I (nI s) (nI i) (nI p) k v, J, P) none (SH, wK I (nI s) (nI (cWo (I 1) (s - i) i 0 0).1) (nI p) (cKd (cWk (I 1) s p (cWo (I 1) (s - i) i 0 0).2.1 cWords 0) (cWo (I 1) (s - i) i 0 0).2.1) (cVl (cWo (I 1) (s - i) i 0 0).2.1 (cWo (I 1) (s - i) i 0 0).2.2), J, P) := by
  refine x_enter cqX8_readWord [some (.ref 28), none] rfl (by simp [lg_sl, Value.category]) ?_
  refine r_aload_n dX8_readWord_0 rfl ?_
  refine r_iconst (v := 0) dX8_readWord_1 (by decide) ?_
  refine r_putIv dX8_readWord_2 flX8_56 ⟨_, _, _, rfl, Or.inl rfl⟩ sh_28 (by decide) rfl rfl rfl (wK_x5 _ _ _ _ _ _ _) ?_
  refine r_iconst (v := 0) dX8_readWord_5 (by decide) ?_
  refine r_istore_n1 dX8_readWord_6 rfl ?_
  exact l_readWord hP hs (nI p) k d (s - i) i 0 0 (by omega) (l_readWord2 hE hP hs hp (Nat.le_trans (cWo_n (I 1) (s - i) i 0 0) (by omega)) _ _ _ d)
def cSp (T : Nat → Int32) : Nat → Nat → Nat
  | 0, i => i
  | c + 1, i => if T i = 10 ∨ T i = 32 then cSp T c (i + 1) else i
theorem cSp_le (T : Nat → Int32) : ∀ c i, i ≤ cSp T c i ∧ cSp T c i ≤ i + c := by
  intro c
  induction c with
  | zero => intro i; exact ⟨Nat.le_refl _, Nat.le_refl _⟩
  | succ c ih =>
    intro i
    rw [cSp]
    split
    · have := ih (i + 1); omega
    · omega
/-- the token at j: behind it, its kind, its value -/
noncomputable def cTo (T : Nat → Int32) (s j : Nat) (v : Int32) : Nat × Int32 × Int32 := if s ≤ j then (j, 38, v) else if cLt (T j) then ((cWo T (s - j) j 0 0).1, cKd (cWk T s j (cWo T (s - j) j 0 0).2.1 cWords 0) (cWo T (s - j) j 0 0).2.1, cVl (cWo T (s - j) j 0 0).2.1 (cWo T (s - j) j 0 0).2.2) else if cDg (T j) then ((cNu T (s - j) j 0).1, 36, (cNu T (s - j) j 0).2) else ((cSi T s j).1, (cSi T s j).2, v)
set_option maxHeartbeats 1000000 in
theorem l_advance {E : xCl} {ex : Bool} {I : Nat → Nat → Int32} {J : Nat → Nat → Int64} {P : Nat → Nat → Nat} (hP : Pok P) {s : Nat} (hs : s ≤ 700) (p k v : Int32) (d : Nat) {Q : Option Value → xS → Prop} : ∀ c i, i + c = s → xR (xEx E ex (d + 2)) ex none yX8_advance cX8_advance none 52 [some (.ref 28)] [] (SH, wK I (nI s) (nI (cSp (I 1) c i)) p k v, J, P) Q → xR (xEx E ex (d + 2)) ex none yX8_advance cX8_advance none 0 [some (.ref 28)] [] (SH, wK I (nI s) (nI i) p k v, J, P) Q := by
  intro c
  induction c with
  | zero =>
    intro i hi K
    refine r_aload_n dX8_advance_0 rfl ?_
    refine r_getIv dX8_advance_1 flX8_28 sh_28 (by decide) rfl (wK_2 _ _ _ _ _ _) ?_
    refine r_aload_n dX8_advance_4 rfl ?_
    refine r_getIv dX8_advance_5 flX8_24 sh_28 (by decide) rfl (wK_1 _ _ _ _ _ _) ?_
    refine r_ic_ge 52 dX8_advance_8 (by decide) (fun c8 => ?_) (fun c8 => ?_)
    · exact K
    · exact absurd (nI_le (by omega) (by omega)) c8
  | succ c ih =>
    intro i hi K
    refine r_aload_n dX8_advance_0 rfl ?_
    refine r_getIv dX8_advance_1 flX8_28 sh_28 (by decide) rfl (wK_2 _ _ _ _ _ _) ?_
    refine r_aload_n dX8_advance_4 rfl ?_
    refine r_getIv dX8_advance_5 flX8_24 sh_28 (by decide) rfl (wK_1 _ _ _ _ _ _) ?_
    refine r_ic_ge 52 dX8_advance_8 (by decide) (fun c8 => ?_) (fun c8 => ?_)
    · exact absurd c8 (nI_ge (a := i) (b := s) (by omega) (by omega))
    · refine r_aload_n dX8_advance_11 rfl ?_
      refine r_getR dX8_advance_12 flX8_9 sh_28 (by decide) rfl (pf_28_0 hP) ?_
      refine r_aload_n dX8_advance_15 rfl ?_
      refine r_getIv dX8_advance_16 flX8_28 sh_28 (by decide) rfl (wK_2 _ _ _ _ _ _) ?_
      refine r_balv dX8_advance_19 sh_1 (vp_in_nI (n := i) (by omega) (by decide)) ((wK_o _ _ _ _ _ _ (by decide) _).trans (congrArg (I 1) (nI_clamp (n := i) (by omega)))) ?_
      refine r_bipush (v := 10) dX8_advance_20 (by decide) ?_
      refine r_ic_eq 39 dX8_advance_22 (by decide) (fun c22 => ?_) (fun c22 => ?_)
      · refine r_aload_n dX8_advance_39 rfl ?_
        refine r_dup dX8_advance_40 rfl ?_
        refine r_getIv dX8_advance_41 flX8_28 sh_28 (by decide) rfl (wK_2 _ _ _ _ _ _) ?_
        refine r_iconst (v := 1) dX8_advance_44 (by decide) ?_
        refine r_iadd dX8_advance_45 ?_
        refine r_putIv dX8_advance_46 flX8_28 ⟨_, _, _, rfl, Or.inl rfl⟩ sh_28 (by decide) rfl rfl rfl (wK_x2 _ _ _ _ _ _ _) ?_
        refine r_goto 0 dX8_advance_49 (by decide) ?_
        rw [nI_1]; rw [cSp, if_pos (Or.inl c22)] at K; exact ih (i + 1) (by omega) K
      · refine r_aload_n dX8_advance_25 rfl ?_
        refine r_getR dX8_advance_26 flX8_9 sh_28 (by decide) rfl (pf_28_0 hP) ?_
        refine r_aload_n dX8_advance_29 rfl ?_
        refine r_getIv dX8_advance_30 flX8_28 sh_28 (by decide) rfl (wK_2 _ _ _ _ _ _) ?_
        refine r_balv dX8_advance_33 sh_1 (vp_in_nI (n := i) (by omega) (by decide)) ((wK_o _ _ _ _ _ _ (by decide) _).trans (congrArg (I 1) (nI_clamp (n := i) (by omega)))) ?_
        refine r_bipush (v := 32) dX8_advance_34 (by decide) ?_
        refine r_ic_ne 52 dX8_advance_36 (by decide) (fun c36 => ?_) (fun c36 => ?_)
        · rw [cSp, if_neg (fun z => z.elim c22 c36)] at K; exact K
        · refine r_aload_n dX8_advance_39 rfl ?_
          refine r_dup dX8_advance_40 rfl ?_
          refine r_getIv dX8_advance_41 flX8_28 sh_28 (by decide) rfl (wK_2 _ _ _ _ _ _) ?_
          refine r_iconst (v := 1) dX8_advance_44 (by decide) ?_
          refine r_iadd dX8_advance_45 ?_
          refine r_putIv dX8_advance_46 flX8_28 ⟨_, _, _, rfl, Or.inl rfl⟩ sh_28 (by decide) rfl rfl rfl (wK_x2 _ _ _ _ _ _ _) ?_
          refine r_goto 0 dX8_advance_49 (by decide) ?_
          rw [nI_1]; rw [cSp, if_pos (Or.inr c36)] at K; exact ih (i + 1) (by omega) K
set_option maxHeartbeats 1000000 in
theorem l_advance2 {E : xCl} {ex : Bool} {I : Nat → Nat → Int32} {J : Nat → Nat → Int64} {P : Nat → Nat → Nat} (hE : EW E) (hP : Pok P) {s : Nat} (hs : s ≤ 700) {j : Nat} (hjs : j ≤ s) (p k v : Int32) (d : Nat) : xR (xEx E ex (d + 2)) ex none yX8_advance cX8_advance none 52 [some (.ref 28)] [] (SH, wK I (nI s) (nI j) p k v, J, P) (xEq none (SH, wK I (nI s) (nI (cTo (I 1) s j v).1) (nI j) (cTo (I 1) s j v).2.1 (cTo (I 1) s j v).2.2, J, P)) := by
  by_cases hj : s ≤ j
  · refine r_aload_n dX8_advance_52 rfl ?_
    refine r_aload_n dX8_advance_53 rfl ?_
    refine r_getIv dX8_advance_54 flX8_28 sh_28 (by decide) rfl (wK_2 _ _ _ _ _ _) ?_
    refine r_putIv dX8_advance_57 flX8_34 ⟨_, _, _, rfl, Or.inl rfl⟩ sh_28 (by decide) rfl rfl rfl (wK_x3 _ _ _ _ _ _ _) ?_
    refine r_aload_n dX8_advance_60 rfl ?_
    refine r_getIv dX8_advance_61 flX8_28 sh_28 (by decide) rfl (wK_2 _ _ _ _ _ _) ?_
    refine r_aload_n dX8_advance_64 rfl ?_
    refine r_getIv dX8_advance_65 flX8_24 sh_28 (by decide) rfl (wK_1 _ _ _ _ _ _) ?_
    refine r_ic_lt 80 dX8_advance_68 (by decide) (fun c68 => ?_) (fun c68 => ?_)
    · exact absurd c68 (nI_nlt hj (by omega))
    · refine r_aload_n dX8_advance_71 rfl ?_
      refine r_bipush (v := 38) dX8_advance_72 (by decide) ?_
      refine r_putIv dX8_advance_74 flX8_37 ⟨_, _, _, rfl, Or.inl rfl⟩ sh_28 (by decide) rfl rfl rfl (wK_x4 _ _ _ _ _ _ _) ?_
      refine r_goto 128 dX8_advance_77 (by decide) ?_
      exact r_vret dX8_advance_128 rfl rfl (by rw [cTo, if_pos hj])
  · refine r_aload_n dX8_advance_52 rfl ?_
    refine r_aload_n dX8_advance_53 rfl ?_
    refine r_getIv dX8_advance_54 flX8_28 sh_28 (by decide) rfl (wK_2 _ _ _ _ _ _) ?_
    refine r_putIv dX8_advance_57 flX8_34 ⟨_, _, _, rfl, Or.inl rfl⟩ sh_28 (by decide) rfl rfl rfl (wK_x3 _ _ _ _ _ _ _) ?_
    refine r_aload_n dX8_advance_60 rfl ?_
    refine r_getIv dX8_advance_61 flX8_28 sh_28 (by decide) rfl (wK_2 _ _ _ _ _ _) ?_
    refine r_aload_n dX8_advance_64 rfl ?_
    refine r_getIv dX8_advance_65 flX8_24 sh_28 (by decide) rfl (wK_1 _ _ _ _ _ _) ?_
    refine r_ic_lt 80 dX8_advance_68 (by decide) (fun c68 => ?_) (fun c68 => ?_)
    · refine r_aload_n dX8_advance_80 rfl ?_
      refine r_getR dX8_advance_81 flX8_9 sh_28 (by decide) rfl (pf_28_0 hP) ?_
      refine r_aload_n dX8_advance_84 rfl ?_
      refine r_getIv dX8_advance_85 flX8_28 sh_28 (by decide) rfl (wK_2 _ _ _ _ _ _) ?_
      refine r_balv dX8_advance_88 sh_1 (vp_in_nI (n := j) (by omega) (by decide)) ((wK_o _ _ _ _ _ _ (by decide) _).trans (congrArg (I 1) (nI_clamp (n := j) (by omega)))) ?_
      by_cases h89 : cLt (I 1 j)
      · refine r_cS1i dX8_advance_89 slX8_40 (Nat.le_of_ble_eq_true rfl) (k_cisLetter_t h89 (d + 1)) ?_
        refine r_if_eq 102 dX8_advance_92 (by decide) (fun c92 => ?_) (fun c92 => ?_)
        · exact absurd c92 (by decide)
        · refine r_aload_n dX8_advance_95 rfl ?_
          refine r_cV0v dX8_advance_96 vlX8_44 sh_28 (Nat.le_of_ble_eq_true rfl) (k_readWord hE hP hs (by omega) hjs _ _ d) ?_
          refine r_goto 128 dX8_advance_99 (by decide) ?_
          exact r_vret dX8_advance_128 rfl rfl (by rw [cTo, if_neg hj, if_pos h89])
      · refine r_cS1i dX8_advance_89 slX8_40 (Nat.le_of_ble_eq_true rfl) (k_cisLetter_f h89 (d + 1)) ?_
        refine r_if_eq 102 dX8_advance_92 (by decide) (fun c92 => ?_) (fun c92 => ?_)
        · refine r_aload_n dX8_advance_102 rfl ?_
          refine r_getR dX8_advance_103 flX8_9 sh_28 (by decide) rfl (pf_28_0 hP) ?_
          refine r_aload_n dX8_advance_106 rfl ?_
          refine r_getIv dX8_advance_107 flX8_28 sh_28 (by decide) rfl (wK_2 _ _ _ _ _ _) ?_
          refine r_balv dX8_advance_110 sh_1 (vp_in_nI (n := j) (by omega) (by decide)) ((wK_o _ _ _ _ _ _ (by decide) _).trans (congrArg (I 1) (nI_clamp (n := j) (by omega)))) ?_
          by_cases h111 : cDg (I 1 j)
          · refine r_cS1i dX8_advance_111 slX8_47 (Nat.le_of_ble_eq_true rfl) (k_cisDigit_t h111 (d + 1)) ?_
            refine r_if_eq 124 dX8_advance_114 (by decide) (fun c114 => ?_) (fun c114 => ?_)
            · exact absurd c114 (by decide)
            · refine r_aload_n dX8_advance_117 rfl ?_
              refine r_cV0v dX8_advance_118 vlX8_50 sh_28 (Nat.le_of_ble_eq_true rfl) (k_readNumber hP hs (by omega) _ _ _ d) ?_
              refine r_goto 128 dX8_advance_121 (by decide) ?_
              exact r_vret dX8_advance_128 rfl rfl (by rw [cTo, if_neg hj, if_neg h89, if_pos h111])
          · refine r_cS1i dX8_advance_111 slX8_47 (Nat.le_of_ble_eq_true rfl) (k_cisDigit_f h111 (d + 1)) ?_
            refine r_if_eq 124 dX8_advance_114 (by decide) (fun c114 => ?_) (fun c114 => ?_)
            · refine r_aload_n dX8_advance_124 rfl ?_
              refine r_cV0v dX8_advance_125 vlX8_53 sh_28 (Nat.le_of_ble_eq_true rfl) (k_readSign hP hs (by omega) _ _ _ d) ?_
              exact r_vret dX8_advance_128 rfl rfl (by rw [cTo, if_neg hj, if_neg h89, if_neg h111])
            · exact absurd c114 (by decide)
        · exact absurd c92 (by decide)
    · exact absurd (nI_lt (Nat.lt_of_not_le hj) (by omega)) c68
set_option maxHeartbeats 1000000 in
theorem k_advance {E : xCl} {ex : Bool} {I : Nat → Nat → Int32} {J : Nat → Nat → Int64} {P : Nat → Nat → Nat} (hE : EW E) (hP : Pok P) {s : Nat} (hs : s ≤ 700) {i : Nat} (hi : i ≤ s) (p k v : Int32) (d : Nat) : xEx E ex (d + 3) yX8_advance [.ref 28] (SH, wK I (nI s) (nI i) p k v, J, P) none (SH, wK I (nI s) (nI (cTo (I 1) s (cSp (I 1) (s - i) i) v).1) (nI (cSp (I 1) (s - i) i)) (cTo (I 1) s (cSp (I 1) (s - i) i) v).2.1 (cTo (I 1) s (cSp (I 1) (s - i) i) v).2.2, J, P) := by
  refine x_enter cqX8_advance [some (.ref 28)] rfl (by simp [lg_sl, Value.category]) ?_
  exact l_advance hP hs p k v d (s - i) i (by omega) (l_advance2 hE hP hs (Nat.le_trans (cSp_le (I 1) (s - i) i).2 (by omega)) p k v d)
theorem mm700 {s : Nat} (hs : s ≤ 700) : (if (0 : Int32) < (if (nI 700 : Int32) < nI s then nI 700 else nI s) then (if (nI 700 : Int32) < nI s then nI 700 else nI s) else 0) = nI s := by
  rw [if_neg (nI_nlt hs (by decide))]
  by_cases h : s = 0
  · subst h; decide
  · rw [if_pos (show (0 : Int32) < nI s from nI_lt (a := 0) (by omega) (by omega))]
set_option maxHeartbeats 1000000 in
theorem k_tkBegin {E : xCl} {ex : Bool} {I : Nat → Nat → Int32} {J : Nat → Nat → Int64} {P : Nat → Nat → Nat} (hE : EW E) (hP : Pok P) {s : Nat} (hs : s ≤ 700) (s0 i0 p k v : Int32) (d : Nat) : xEx E ex (d + 4) yX8_begin [.ref 28, .int (nI s)] (SH, wK I s0 i0 p k v, J, P) none (SH, wK I (nI s) (nI (cTo (I 1) s (cSp (I 1) (s - 0) 0) v).1) (nI (cSp (I 1) (s - 0) 0)) (cTo (I 1) s (cSp (I 1) (s - 0) 0) v).2.1 (cTo (I 1) s (cSp (I 1) (s - 0) 0) v).2.2, J, P) := by
  refine x_enter cqX8_begin [some (.ref 28), some (.int (nI s))] rfl (by simp [lg_sl, Value.category]) ?_
  refine r_aload_n dX8_begin_0 rfl ?_
  refine r_iconst (v := 0) dX8_begin_1 (by decide) ?_
  refine r_iload_n dX8_begin_2 rfl ?_
  refine r_aload_n dX8_begin_3 rfl ?_
  refine r_getR dX8_begin_4 flX8_9 sh_28 (by decide) rfl (pf_28_0 hP) ?_
  refine r_alen dX8_begin_7 sh_1 ?_
  refine r_mmin dX8_begin_8 hlX8_15 (Nat.le_of_ble_eq_true rfl) ?_
  refine r_mmax dX8_begin_11 hlX8_21 (Nat.le_of_ble_eq_true rfl) ?_
  rw [show (if (0 : Int32) < (if Int32.ofNat 700 < nI s then Int32.ofNat 700 else nI s) then (if Int32.ofNat 700 < nI s then Int32.ofNat 700 else nI s) else 0) = nI s from mm700 hs]
  refine r_putIv dX8_begin_14 flX8_24 ⟨_, _, _, rfl, Or.inl rfl⟩ sh_28 (by decide) rfl rfl rfl (wK_x1 _ _ _ _ _ _ _) ?_
  refine r_aload_n dX8_begin_17 rfl ?_
  refine r_iconst (v := 0) dX8_begin_18 (by decide) ?_
  refine r_putIv dX8_begin_19 flX8_28 ⟨_, _, _, rfl, Or.inl rfl⟩ sh_28 (by decide) rfl rfl rfl (wK_x2 _ _ _ _ _ _ _) ?_
  refine r_aload_n dX8_begin_22 rfl ?_
  refine r_cV0v dX8_begin_23 vlX8_31 sh_28 (Nat.le_of_ble_eq_true rfl) (k_advance hE hP hs (Nat.zero_le _) _ _ _ d) ?_
  exact r_vret dX8_begin_26 rfl rfl rfl
