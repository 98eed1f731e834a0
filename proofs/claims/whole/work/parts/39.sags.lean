/-! the single cells beside bridges and tales -/
def OTH : List Nat := [0, 1, 2, 28, 29, 30, 92, 93, 94, 95, 96, 97, 98, 99, 100, 101, 102, 103, 104, 105, 106, 347, 348, 349, 350, 351, 352, 353, 354, 355, 356, 357, 358, 359, 360, 361, 362, 363, 364, 365, 366, 367, 368, 369, 370, 371, 372, 373, 374, 375, 376, 377, 378, 379, 380, 381, 382, 383, 384, 385, 386, 387, 388, 389, 390, 391, 392, 393, 394, 395, 396, 397, 398, 399, 400, 401, 402, 403, 404]
theorem br_x : ∀ b ∈ BR, ∀ a ∈ OTH, a < b ∨ b + 11 < a := by decide +kernel
theorem tl_x : ∀ t ∈ TL, ∀ a ∈ OTH, ∀ f, f < 13 → a ≠ t + f := by decide +kernel
theorem wB_xo (I : Nat → Nat → Int32) {b : Nat} (V : Nat → Nat → Int32) {a : Nat} (h : a < b ∨ b + 11 < a) (k : Nat) (v : Int32) : xu (wB I b V) a k v = wB (xu I a k v) b V := by
  funext a' k'
  simp only [wB, xu]
  by_cases h1 : a' = b
  · subst h1
    rw [if_neg (by omega)]
    simp only [if_true]
    split
    · rfl
    · rw [if_neg (by omega)]
  · simp only [h1, if_false]
    by_cases h3 : (b < a' ∧ a' ≤ b + 11) ∧ k' < bl (a' - b)
    · rw [if_pos h3, if_pos h3, if_neg (by omega)]
    · rw [if_neg h3, if_neg h3]
theorem sh_93 : SH[93]? = some (.inl 5, 6) := by decide +kernel
theorem pf_93_0 {P : Nat → Nat → Nat} (h : Pok P) : P 93 0 = 94 + 1 := h.at (by decide +kernel)
theorem pf_93_1 {P : Nat → Nat → Nat} (h : Pok P) : P 93 1 = 95 + 1 := h.at (by decide +kernel)
theorem pf_93_2 {P : Nat → Nat → Nat} (h : Pok P) : P 93 2 = 96 + 1 := h.at (by decide +kernel)
theorem pf_93_3 {P : Nat → Nat → Nat} (h : Pok P) : P 93 3 = 97 + 1 := h.at (by decide +kernel)
theorem sh_94 : SH[94]? = some (.inr 0, 24) := by decide +kernel
theorem sh_95 : SH[95]? = some (.inr 0, 24) := by decide +kernel
theorem sh_96 : SH[96]? = some (.inr 0, 24) := by decide +kernel
theorem sh_97 : SH[97]? = some (.inr 0, 24) := by decide +kernel
theorem sh_98 : SH[98]? = some (.inl 9, 2) := by decide +kernel
theorem pf_98_0 {P : Nat → Nat → Nat} (h : Pok P) : P 98 0 = 99 + 1 := h.at (by decide +kernel)
theorem pf_98_1 {P : Nat → Nat → Nat} (h : Pok P) : P 98 1 = 100 + 1 := h.at (by decide +kernel)
theorem sh_99 : SH[99]? = some (.inr 0, 12) := by decide +kernel
theorem sh_100 : SH[100]? = some (.inr 0, 12) := by decide +kernel
theorem sh_101 : SH[101]? = some (.inl 3, 1) := by decide +kernel
theorem pf_101_0 {P : Nat → Nat → Nat} (h : Pok P) : P 101 0 = 102 + 1 := h.at (by decide +kernel)
theorem sh_102 : SH[102]? = some (.inr 0, 12) := by decide +kernel
theorem sh_103 : SH[103]? = some (.inl 4, 4) := by decide +kernel
theorem pf_103_0 {P : Nat → Nat → Nat} (h : Pok P) : P 103 0 = 104 + 1 := h.at (by decide +kernel)
theorem pf_103_1 {P : Nat → Nat → Nat} (h : Pok P) : P 103 1 = 105 + 1 := h.at (by decide +kernel)
theorem sh_104 : SH[104]? = some (.inr 0, 12) := by decide +kernel
theorem sh_105 : SH[105]? = some (.inr 0, 128) := by decide +kernel
theorem sh_106 : SH[106]? = some (.inr 0, 11) := by decide +kernel
set_option maxHeartbeats 1000000 in
theorem k_sgClear {E : xCl} {ex : Bool} {I : Nat → Nat → Int32} {J : Nat → Nat → Int64} {P : Nat → Nat → Nat}  (d : Nat) : xEx E ex (d + 1) yX5_clear [.ref 93] (SH, I, J, P) none (SH, xu (xu I 93 4 0) 93 5 (-1), J, P) := by
  refine x_enter cqX5_clear [some (.ref 93)] rfl (by simp [lg_sl, Value.category]) ?_
  refine r_aload_n dX5_clear_0 rfl ?_
  refine r_iconst (v := 0) dX5_clear_1 (by decide) ?_
  refine r_putI dX5_clear_2 flX5_28 ⟨_, _, _, rfl, Or.inl rfl⟩ sh_93 (by decide) rfl rfl rfl ?_
  refine r_aload_n dX5_clear_5 rfl ?_
  refine r_iconst (v := (-1)) dX5_clear_6 (by decide) ?_
  refine r_putI dX5_clear_7 flX5_24 ⟨_, _, _, rfl, Or.inl rfl⟩ sh_93 (by decide) rfl rfl rfl ?_
  exact r_vret dX5_clear_10 rfl rfl rfl
def sKs (I : Nat → Nat → Int32) : Int32 := if I 93 5 = -1 then I 93 4 else I 93 5
set_option maxHeartbeats 1000000 in
theorem k_knownSize {E : xCl} {ex : Bool} {I : Nat → Nat → Int32} {J : Nat → Nat → Int64} {P : Nat → Nat → Nat}  (d : Nat) : xEx E ex (d + 1) yX5_knownSize [.ref 93] (SH, I, J, P) (some (.int (sKs I))) (SH, I, J, P) := by
  refine x_enter cqX5_knownSize [some (.ref 93)] rfl (by simp [lg_sl, Value.category]) ?_
  refine r_aload_n dX5_knownSize_0 rfl ?_
  refine r_getI dX5_knownSize_1 flX5_24 sh_93 (by decide) rfl ?_
  refine r_iconst (v := (-1)) dX5_knownSize_4 (by decide) ?_
  refine r_ic_ne 15 dX5_knownSize_5 (by decide) (fun c5 => ?_) (fun c5 => ?_)
  · refine r_aload_n dX5_knownSize_15 rfl ?_
    refine r_getI dX5_knownSize_16 flX5_24 sh_93 (by decide) rfl ?_
    exact r_iret dX5_knownSize_19 rfl rfl (by rw [sKs, if_neg c5]) rfl
  · refine r_aload_n dX5_knownSize_8 rfl ?_
    refine r_getI dX5_knownSize_9 flX5_28 sh_93 (by decide) rfl ?_
    refine r_goto 19 dX5_knownSize_12 (by decide) ?_
    exact r_iret dX5_knownSize_19 rfl rfl (by rw [sKs, if_pos c5]) rfl
theorem lt24 {j : Nat} (h : j < 24) : nI j < 24 := nI_lt (a := j) (b := 24) h (by omega)
theorem nlt24 {j : Nat} (h : j < 24) : ¬ (24 : Int32) ≤ nI j := fun q => nI_ge (a := j) (b := 24) h (by omega) q
theorem in24 {j : Nat} (h : j < 24) : vp_in (nI j) 24 := vp_in_nI h (by omega)
theorem cl24 {j : Nat} (h : j < 24) : (nI j).toNatClampNeg = j := nI_clamp (by omega)
def sPut (I : Nat → Nat → Int32) (s : Nat) (x1 x2 x3 x4 : Int32) : Nat → Nat → Int32 := xu (xu (xu (xu (xu I 94 s x1) 95 s x2) 96 s x3) 97 s x4) 93 4 (nI (s + 1))
set_option maxHeartbeats 1000000 in
theorem k_put_t {E : xCl} {ex : Bool} {I : Nat → Nat → Int32} {J : Nat → Nat → Int64} {P : Nat → Nat → Nat} (hP : Pok P) {s : Nat} (hs : s < 24) (h4 : I 93 4 = nI s) (x1 x2 x3 x4 : Int32) (d : Nat) : xEx E ex (d + 1) yX5_put [.ref 93, .int x1, .int x2, .int x3, .int x4] (SH, I, J, P) (some (.int (nI s))) (SH, sPut I s x1 x2 x3 x4, J, P) := by
  refine x_enter cqX5_put [some (.ref 93), some (.int x1), some (.int x2), some (.int x3), some (.int x4)] rfl (by simp [lg_sl, Value.category]) ?_
  refine r_aload_n dX5_put_0 rfl ?_
  refine r_getIv dX5_put_1 flX5_28 sh_93 (by decide) rfl h4 ?_
  refine r_bipush (v := 24) dX5_put_4 (by decide) ?_
  refine r_ic_lt 11 dX5_put_6 (by decide) (fun c6 => ?_) (fun c6 => ?_)
  · refine r_aload_n dX5_put_11 rfl ?_
    refine r_getR dX5_put_12 flX5_9 sh_93 (by decide) rfl (pf_93_0 hP) ?_
    refine r_aload_n dX5_put_15 rfl ?_
    refine r_getIv dX5_put_16 flX5_28 sh_93 (by decide) rfl (v := nI s) (by simp [xu_f, h4]) ?_
    refine r_iload_n dX5_put_19 rfl ?_
    refine r_iasv dX5_put_20 sh_94 (in24 hs) (congrArg (fun z => xu _ _ z _) (cl24 hs)) ?_
    refine r_aload_n dX5_put_21 rfl ?_
    refine r_getR dX5_put_22 flX5_15 sh_93 (by decide) rfl (pf_93_1 hP) ?_
    refine r_aload_n dX5_put_25 rfl ?_
    refine r_getIv dX5_put_26 flX5_28 sh_93 (by decide) rfl (v := nI s) (by simp [xu_f, h4]) ?_
    refine r_iload_n dX5_put_29 rfl ?_
    refine r_iasv dX5_put_30 sh_95 (in24 hs) (congrArg (fun z => xu _ _ z _) (cl24 hs)) ?_
    refine r_aload_n dX5_put_31 rfl ?_
    refine r_getR dX5_put_32 flX5_18 sh_93 (by decide) rfl (pf_93_2 hP) ?_
    refine r_aload_n dX5_put_35 rfl ?_
    refine r_getIv dX5_put_36 flX5_28 sh_93 (by decide) rfl (v := nI s) (by simp [xu_f, h4]) ?_
    refine r_iload_n dX5_put_39 rfl ?_
    refine r_iasv dX5_put_40 sh_96 (in24 hs) (congrArg (fun z => xu _ _ z _) (cl24 hs)) ?_
    refine r_aload_n dX5_put_41 rfl ?_
    refine r_getR dX5_put_42 flX5_21 sh_93 (by decide) rfl (pf_93_3 hP) ?_
    refine r_aload_n dX5_put_45 rfl ?_
    refine r_getIv dX5_put_46 flX5_28 sh_93 (by decide) rfl (v := nI s) (by simp [xu_f, h4]) ?_
    refine r_iload dX5_put_49 rfl ?_
    refine r_iasv dX5_put_51 sh_97 (in24 hs) (congrArg (fun z => xu _ _ z _) (cl24 hs)) ?_
    refine r_aload_n dX5_put_52 rfl ?_
    refine r_dup dX5_put_53 rfl ?_
    refine r_getIv dX5_put_54 flX5_28 sh_93 (by decide) rfl (v := nI s) (by simp [xu_f, h4]) ?_
    refine r_iconst (v := 1) dX5_put_57 (by decide) ?_
    refine r_iadd dX5_put_58 ?_
    refine r_putI dX5_put_59 flX5_28 ⟨_, _, _, rfl, Or.inl rfl⟩ sh_93 (by decide) rfl rfl rfl ?_
    refine r_aload_n dX5_put_62 rfl ?_
    refine r_getIv dX5_put_63 flX5_28 sh_93 (by decide) rfl (v := nI s + 1) (xu_s _ _ _ _) ?_
    refine r_iconst (v := 1) dX5_put_66 (by decide) ?_
    refine r_isub dX5_put_67 ?_
    exact r_iret dX5_put_68 rfl rfl (by rw [nI_1, nI_pred]) (by rw [nI_1]; rfl)
  · exact absurd (lt24 hs) c6
set_option maxHeartbeats 1000000 in
theorem k_put_f {E : xCl} {ex : Bool} {I : Nat → Nat → Int32} {J : Nat → Nat → Int64} {P : Nat → Nat → Nat} (h4 : I 93 4 = nI 24) (x1 x2 x3 x4 : Int32) (d : Nat) : xEx E ex (d + 1) yX5_put [.ref 93, .int x1, .int x2, .int x3, .int x4] (SH, I, J, P) (some (.int (-1))) (SH, I, J, P) := by
  refine x_enter cqX5_put [some (.ref 93), some (.int x1), some (.int x2), some (.int x3), some (.int x4)] rfl (by simp [lg_sl, Value.category]) ?_
  refine r_aload_n dX5_put_0 rfl ?_
  refine r_getIv dX5_put_1 flX5_28 sh_93 (by decide) rfl h4 ?_
  refine r_bipush (v := 24) dX5_put_4 (by decide) ?_
  refine r_ic_lt 11 dX5_put_6 (by decide) (fun c6 => ?_) (fun c6 => ?_)
  · exact absurd c6 (by decide)
  · refine r_iconst (v := (-1)) dX5_put_9 (by decide) ?_
    exact r_iret dX5_put_10 rfl rfl rfl rfl
def sKb (I : Nat → Nat → Int32) : Nat → Int32 → Int32 → Int32
  | 0, _, u => u
  | j + 1, s, u => if (s >>> (nI j &&& 31)) &&& 1 = 1 then sKb I j s u else if I 97 j = 2 then sKb I j (s ||| (1 <<< (I 94 j &&& 31))) u else sKb I j s (u ||| (1 <<< (nI j &&& 31)))
theorem pm1 (x : Int32) : x + (-1) = x - 1 := (Int32.sub_eq_add_neg x 1).symm
theorem l_knownBits {E : xCl} {ex : Bool} {I : Nat → Nat → Int32} {J : Nat → Nat → Int64} {P : Nat → Nat → Nat} (hP : Pok P) (d : Nat) : ∀ j, j ≤ 24 → ∀ s u, xR (xEx E ex (d + 1)) ex none yX5_knownBits cX5_knownBits (some .int) 16 [some (.ref 93), some (.int s), some (.int u), some (.int (nI j - 1))] [] (SH, I, J, P) (xEq (some (.int (sKb I j s u))) (SH, I, J, P)) := by
  intro j
  induction j with
  | zero =>
    intro _ s u
    rw [show nI 0 - 1 = -1 from by decide]
    refine r_iload_n dX5_knownBits_16 rfl ?_
    refine r_if_lt 68 dX5_knownBits_17 (by decide) (fun c17 => ?_) (fun c17 => ?_)
    · refine r_iload_n dX5_knownBits_68 rfl ?_
      exact r_iret dX5_knownBits_69 rfl rfl rfl rfl
    · exact absurd (by decide) c17
  | succ j ih =>
    intro hj s u
    rw [nI_pred]
    refine r_iload_n dX5_knownBits_16 rfl ?_
    refine r_if_lt 68 dX5_knownBits_17 (by decide) (fun c17 => ?_) (fun c17 => ?_)
    · exact absurd c17 (nI_pos (by omega))
    · refine r_iload_n dX5_knownBits_20 rfl ?_
      refine r_iload_n dX5_knownBits_21 rfl ?_
      refine r_ishr dX5_knownBits_22 ?_
      refine r_iconst (v := 1) dX5_knownBits_23 (by decide) ?_
      refine r_iand dX5_knownBits_24 ?_
      refine r_iconst (v := 1) dX5_knownBits_25 (by decide) ?_
      refine r_ic_ne 32 dX5_knownBits_26 (by decide) (fun c26 => ?_) (fun c26 => ?_)
      · refine r_aload_n dX5_knownBits_32 rfl ?_
        refine r_getR dX5_knownBits_33 flX5_21 sh_93 (by decide) rfl (pf_93_3 hP) ?_
        refine r_iload_n dX5_knownBits_36 rfl ?_
        refine r_ialv dX5_knownBits_37 sh_97 (in24 hj) (congrArg (I 97) (cl24 hj)) ?_
        refine r_iconst (v := 2) dX5_knownBits_38 (by decide) ?_
        refine r_ic_ne 56 dX5_knownBits_39 (by decide) (fun c39 => ?_) (fun c39 => ?_)
        · refine r_iload_n dX5_knownBits_56 rfl ?_
          refine r_iconst (v := 1) dX5_knownBits_57 (by decide) ?_
          refine r_iload_n dX5_knownBits_58 rfl ?_
          refine r_ishl dX5_knownBits_59 ?_
          refine r_ior dX5_knownBits_60 ?_
          refine r_istore_n2 dX5_knownBits_61 rfl ?_
          refine r_iinc3 (v := (-1)) dX5_knownBits_62 (by decide) rfl ?_
          refine r_goto 16 dX5_knownBits_65 (by decide) ?_
          rw [show nI j + (-1) = nI j - 1 from pm1 _]; rw [sKb, if_neg c26, if_neg c39]; exact ih (by omega) _ _
        · refine r_iload_n dX5_knownBits_42 rfl ?_
          refine r_iconst (v := 1) dX5_knownBits_43 (by decide) ?_
          refine r_aload_n dX5_knownBits_44 rfl ?_
          refine r_getR dX5_knownBits_45 flX5_9 sh_93 (by decide) rfl (pf_93_0 hP) ?_
          refine r_iload_n dX5_knownBits_48 rfl ?_
          refine r_ialv dX5_knownBits_49 sh_94 (in24 hj) (congrArg (I 94) (cl24 hj)) ?_
          refine r_ishl dX5_knownBits_50 ?_
          refine r_ior dX5_knownBits_51 ?_
          refine r_istore_n1 dX5_knownBits_52 rfl ?_
          refine r_goto 62 dX5_knownBits_53 (by decide) ?_
          refine r_iinc3 (v := (-1)) dX5_knownBits_62 (by decide) rfl ?_
          refine r_goto 16 dX5_knownBits_65 (by decide) ?_
          rw [show nI j + (-1) = nI j - 1 from pm1 _]; rw [sKb, if_neg c26, if_pos c39]; exact ih (by omega) _ _
      · refine r_goto 62 dX5_knownBits_29 (by decide) ?_
        refine r_iinc3 (v := (-1)) dX5_knownBits_62 (by decide) rfl ?_
        refine r_goto 16 dX5_knownBits_65 (by decide) ?_
        rw [show nI j + (-1) = nI j - 1 from pm1 _]; rw [sKb, if_pos c26]; exact ih (by omega) _ _
set_option maxHeartbeats 1000000 in
theorem k_knownBits {E : xCl} {ex : Bool} {I : Nat → Nat → Int32} {J : Nat → Nat → Int64} {P : Nat → Nat → Nat} (hP : Pok P) {q : Nat} (hq : q ≤ 24) (hk : sKs I = nI q) (d : Nat) : xEx E ex (d + 2) yX5_knownBits [.ref 93] (SH, I, J, P) (some (.int (sKb I q 0 0))) (SH, I, J, P) := by
  refine x_enter cqX5_knownBits [some (.ref 93), none, none, none] rfl (by simp [lg_sl, Value.category]) ?_
  refine r_iconst (v := 0) dX5_knownBits_0 (by decide) ?_
  refine r_istore_n1 dX5_knownBits_1 rfl ?_
  refine r_iconst (v := 0) dX5_knownBits_2 (by decide) ?_
  refine r_istore_n2 dX5_knownBits_3 rfl ?_
  refine r_aload_n dX5_knownBits_4 rfl ?_
  refine r_cV0i dX5_knownBits_5 vlX5_31 sh_93 (Nat.le_of_ble_eq_true rfl) (k_knownSize d) ?_
  refine r_bipush (v := 24) dX5_knownBits_8 (by decide) ?_
  refine r_mmin dX5_knownBits_10 hlX5_35 (Nat.le_of_ble_eq_true rfl) ?_
  refine r_iconst (v := 1) dX5_knownBits_13 (by decide) ?_
  refine r_isub dX5_knownBits_14 ?_
  refine r_istore_n3 dX5_knownBits_15 rfl ?_
  rw [hk, if_neg (fun z => absurd z (by rw [Int32.not_lt]; exact nI_le (a := q) (b := 24) hq (by omega)))]; exact l_knownBits hP d q hq _ _
def sLy (I : Nat → Nat → Int32) (w : Int32) : Nat → Int32
  | 0 => -1
  | j + 1 => if (w >>> (nI j &&& 31)) &&& 1 = 1 then (if sLy I w j < I 94 j then I 94 j else sLy I w j) else sLy I w j
set_option maxHeartbeats 1000000 in
theorem l_lastYearOf {E : xCl} {ex : Bool} {I : Nat → Nat → Int32} {J : Nat → Nat → Int64} {P : Nat → Nat → Nat} (hP : Pok P) {s : Nat} (hs : s ≤ 24) (h4 : I 93 4 = nI s) (w : Int32) (d : Nat) : ∀ j, j ≤ s → xR (xEx E ex (d + 0)) ex none yX5_lastYearOf cX5_lastYearOf (some .int) 4 [some (.ref 93), some (.int w), some (.int (sLy I w j)), some (.int (nI j))] [] (SH, I, J, P) (xEq (some (.int (if 50 < sLy I w s then 50 else sLy I w s))) (SH, I, J, P)) := by
  refine r_for (fun j => xR (xEx E ex (d + 0)) ex none yX5_lastYearOf cX5_lastYearOf (some .int) 4 [some (.ref 93), some (.int w), some (.int (sLy I w j)), some (.int (nI j))] [] (SH, I, J, P) (xEq (some (.int (if 50 < sLy I w s then 50 else sLy I w s))) (SH, I, J, P))) _ ?_ ?_
  · intro j hj ih
    refine r_iload_n dX5_lastYearOf_4 rfl ?_
    refine r_aload_n dX5_lastYearOf_5 rfl ?_
    refine r_getIv dX5_lastYearOf_6 flX5_28 sh_93 (by decide) rfl h4 ?_
    refine r_ic_ge 44 dX5_lastYearOf_9 (by decide) (fun c9 => ?_) (fun c9 => ?_)
    · exact absurd c9 (nI_ge hj (by omega))
    · refine r_iload_n dX5_lastYearOf_12 rfl ?_
      refine r_bipush (v := 24) dX5_lastYearOf_13 (by decide) ?_
      refine r_ic_ge 44 dX5_lastYearOf_15 (by decide) (fun c15 => ?_) (fun c15 => ?_)
      · exact absurd c15 (nlt24 (by omega))
      · refine r_iload_n dX5_lastYearOf_18 rfl ?_
        refine r_iload_n dX5_lastYearOf_19 rfl ?_
        refine r_ishr dX5_lastYearOf_20 ?_
        refine r_iconst (v := 1) dX5_lastYearOf_21 (by decide) ?_
        refine r_iand dX5_lastYearOf_22 ?_
        refine r_iconst (v := 1) dX5_lastYearOf_23 (by decide) ?_
        refine r_ic_ne 38 dX5_lastYearOf_24 (by decide) (fun c24 => ?_) (fun c24 => ?_)
        · refine r_iinc3 (v := 1) dX5_lastYearOf_38 (by decide) rfl ?_
          refine r_goto 4 dX5_lastYearOf_41 (by decide) ?_
          rw [nI_1]; rw [sLy, if_neg c24] at ih; exact ih
        · refine r_iload_n dX5_lastYearOf_27 rfl ?_
          refine r_aload_n dX5_lastYearOf_28 rfl ?_
          refine r_getR dX5_lastYearOf_29 flX5_9 sh_93 (by decide) rfl (pf_93_0 hP) ?_
          refine r_iload_n dX5_lastYearOf_32 rfl ?_
          refine r_ialv dX5_lastYearOf_33 sh_94 (in24 (Nat.lt_of_lt_of_le hj hs)) (congrArg (I 94) (cl24 (Nat.lt_of_lt_of_le hj hs))) ?_
          refine r_mmax dX5_lastYearOf_34 hlX5_41 (Nat.le_of_ble_eq_true rfl) ?_
          refine r_istore_n2 dX5_lastYearOf_37 rfl ?_
          refine r_iinc3 (v := 1) dX5_lastYearOf_38 (by decide) rfl ?_
          refine r_goto 4 dX5_lastYearOf_41 (by decide) ?_
          rw [nI_1]; rw [sLy, if_pos c24] at ih; exact ih
  · refine r_iload_n dX5_lastYearOf_4 rfl ?_
    refine r_aload_n dX5_lastYearOf_5 rfl ?_
    refine r_getIv dX5_lastYearOf_6 flX5_28 sh_93 (by decide) rfl h4 ?_
    refine r_ic_ge 44 dX5_lastYearOf_9 (by decide) (fun c9 => ?_) (fun c9 => ?_)
    · refine r_iload_n dX5_lastYearOf_44 rfl ?_
      refine r_bipush (v := 50) dX5_lastYearOf_45 (by decide) ?_
      refine r_mmin dX5_lastYearOf_47 hlX5_35 (Nat.le_of_ble_eq_true rfl) ?_
      exact r_iret dX5_lastYearOf_50 rfl rfl rfl rfl
    · exact absurd (nI_le (Nat.le_refl _) (by omega)) c9
set_option maxHeartbeats 1000000 in
theorem k_lastYearOf {E : xCl} {ex : Bool} {I : Nat → Nat → Int32} {J : Nat → Nat → Int64} {P : Nat → Nat → Nat} (hP : Pok P) {s : Nat} (hs : s ≤ 24) (h4 : I 93 4 = nI s) (w : Int32) (d : Nat) : xEx E ex (d + 1) yX5_lastYearOf [.ref 93, .int w] (SH, I, J, P) (some (.int (if 50 < sLy I w s then 50 else sLy I w s))) (SH, I, J, P) := by
  refine x_enter cqX5_lastYearOf [some (.ref 93), some (.int w), none, none] rfl (by simp [lg_sl, Value.category]) ?_
  refine r_iconst (v := (-1)) dX5_lastYearOf_0 (by decide) ?_
  refine r_istore_n2 dX5_lastYearOf_1 rfl ?_
  refine r_iconst (v := 0) dX5_lastYearOf_2 (by decide) ?_
  refine r_istore_n3 dX5_lastYearOf_3 rfl ?_
  exact l_lastYearOf hP hs h4 w d 0 (Nat.zero_le s)
