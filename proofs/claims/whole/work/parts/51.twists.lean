/-! which twists bear most -/
theorem le_nI {x : Int32} {i : Nat} (h : i < 2 ^ 31) : x ≤ nI i ↔ x.toNatClampNeg ≤ i := by
  rw [Int32.le_iff_toInt_le, nI_toInt h]
  show _ ↔ x.toInt.toNat ≤ i
  omega
def sPs (w k : Int32) : Int32 := 2 * (if bC w / 2 < k then bC w / 2 else k)
def sGa (g : Nat → Int32) : Nat → Int32 → Int32 → Int32
  | 0, _, s => s / 2
  | c + 1, w, s => if sHe g w 12 = -1 then s / 2 else sGa g c (w &&& ((1 <<< (sHe g w 12 &&& 31)) ^^^ (-1))) (s + g (sHe g w 12).toNatClampNeg)
def sGain (g : Nat → Int32) (w k : Int32) : Int32 := sGa g (sPs w k).toNatClampNeg w 0
theorem clamp_lt (x : Int32) : x.toNatClampNeg < 2 ^ 31 := by
  show x.toInt.toNat < 2 ^ 31
  have := Int32.toInt_lt x
  omega
set_option maxHeartbeats 2000000 in
theorem l_gain {E : xCl} {ex : Bool} {I : Nat → Nat → Int32} {J : Nat → Nat → Int64} {P : Nat → Nat → Nat} (w k p : Int32) (d : Nat) : ∀ c j l s y, j + c = (2 * p).toNatClampNeg → xR (xEx E ex (d + 1)) ex none yX3_gain cX3_gain (some .int) 21 [some (.ref 101), some (.ref 99), some (.int w), some (.int k), some (.int p), some (.int l), some (.int s), some (.int (nI j)), y] [] (SH, I, J, P) (xEq (some (.int (sGa (I 99) c l s))) (SH, I, J, P)) := by
  have hp := clamp_lt (2 * p)
  intro c
  induction c with
  | zero =>
    intro j l s y hj
    refine r_iload dX3_gain_21 rfl ?_
    refine r_iconst (v := 2) dX3_gain_23 (by decide) ?_
    refine r_iload dX3_gain_24 rfl ?_
    refine r_imul dX3_gain_26 ?_
    refine r_ic_ge 73 dX3_gain_27 (by decide) (fun c27 => ?_) (fun c27 => ?_)
    · refine r_iload dX3_gain_73 rfl ?_
      refine r_iconst (v := 2) dX3_gain_75 (by decide) ?_
      refine r_idiv dX3_gain_76 (by decide) ?_
      exact r_iret dX3_gain_77 rfl rfl rfl rfl
    · exact absurd ((le_nI (by omega)).mpr (by omega)) c27
  | succ c ih =>
    intro j l s y hj
    refine r_iload dX3_gain_21 rfl ?_
    refine r_iconst (v := 2) dX3_gain_23 (by decide) ?_
    refine r_iload dX3_gain_24 rfl ?_
    refine r_imul dX3_gain_26 ?_
    refine r_ic_ge 73 dX3_gain_27 (by decide) (fun c27 => ?_) (fun c27 => ?_)
    · exact absurd ((le_nI (by omega)).mp c27) (by omega)
    · refine r_aload_n dX3_gain_30 rfl ?_
      refine r_iload dX3_gain_31 rfl ?_
      refine r_cS2i dX3_gain_33 slX3_27 (Nat.le_of_ble_eq_true rfl) (k_heaviestOf l d) ?_
      refine r_istore8 dX3_gain_36 rfl ?_
      refine r_iload dX3_gain_38 rfl ?_
      refine r_iconst (v := (-1)) dX3_gain_40 (by decide) ?_
      refine r_ic_ne 47 dX3_gain_41 (by decide) (fun c41 => ?_) (fun c41 => ?_)
      · refine r_iload dX3_gain_47 rfl ?_
        refine r_aload_n dX3_gain_49 rfl ?_
        refine r_iload dX3_gain_50 rfl ?_
        refine r_ial dX3_gain_52 sh_99 ((sHe_in (I 99) l 12 (Nat.le_refl _)).resolve_left c41) ?_
        refine r_iadd dX3_gain_53 ?_
        refine r_istore6 dX3_gain_54 rfl ?_
        refine r_iload dX3_gain_56 rfl ?_
        refine r_iconst (v := 1) dX3_gain_58 (by decide) ?_
        refine r_iload dX3_gain_59 rfl ?_
        refine r_ishl dX3_gain_61 ?_
        refine r_iconst (v := (-1)) dX3_gain_62 (by decide) ?_
        refine r_ixor dX3_gain_63 ?_
        refine r_iand dX3_gain_64 ?_
        refine r_istore5 dX3_gain_65 rfl ?_
        refine r_iinc7 (v := 1) dX3_gain_67 (by decide) rfl ?_
        refine r_goto 21 dX3_gain_70 (by decide) ?_
        rw [nI_1]; rw [sGa, if_neg c41]; exact ih (j + 1) _ _ _ (by omega)
      · refine r_goto 73 dX3_gain_44 (by decide) ?_
        refine r_iload dX3_gain_73 rfl ?_
        refine r_iconst (v := 2) dX3_gain_75 (by decide) ?_
        refine r_idiv dX3_gain_76 (by decide) ?_
        exact r_iret dX3_gain_77 rfl rfl (by rw [sGa, if_pos c41]) rfl
set_option maxHeartbeats 1000000 in
theorem k_gain {E : xCl} {ex : Bool} {I : Nat → Nat → Int32} {J : Nat → Nat → Int64} {P : Nat → Nat → Nat} (w k : Int32) (d : Nat) : xEx E ex (d + 2) yX3_gain [.ref 101, .ref 99, .int w, .int k] (SH, I, J, P) (some (.int (sGain (I 99) w k))) (SH, I, J, P) := by
  refine x_enter cqX3_gain [some (.ref 101), some (.ref 99), some (.int w), some (.int k), none, none, none, none, none] rfl (by simp [lg_sl, Value.category]) ?_
  refine r_iload_n dX3_gain_0 rfl ?_
  refine r_iload_n dX3_gain_1 rfl ?_
  refine r_cS1i dX3_gain_2 slX3_15 (Nat.le_of_ble_eq_true rfl) (k_bitCount w d) ?_
  refine r_iconst (v := 2) dX3_gain_5 (by decide) ?_
  refine r_idiv dX3_gain_6 (by decide) ?_
  refine r_mmin dX3_gain_7 hlX3_21 (Nat.le_of_ble_eq_true rfl) ?_
  refine r_istore4 dX3_gain_10 rfl ?_
  refine r_iload_n dX3_gain_12 rfl ?_
  refine r_istore5 dX3_gain_13 rfl ?_
  refine r_iconst (v := 0) dX3_gain_15 (by decide) ?_
  refine r_istore6 dX3_gain_16 rfl ?_
  refine r_iconst (v := 0) dX3_gain_18 (by decide) ?_
  refine r_istore7 dX3_gain_19 rfl ?_
  exact l_gain w k _ d _ 0 w 0 none (Nat.zero_add _)
def sFps (g : Nat → Int32) (i : Nat) (l k w : Int32) : Nat → Nat → Int32
  | 0, _ => -2
  | c + 1, j => if (l >>> (nI j &&& 31)) &&& 1 = 1 ∧ (g i + g j) / (2 : Int32) + sGain g (l &&& ((1 <<< (nI j &&& 31)) ^^^ (-1))) (k - 1) = w then nI j else sFps g i l k w c (j + 1)
def sFp (g : Nat → Int32) (i : Nat) (l k w : Int32) : Int32 := if sGain g l k = w then -2 else sFps g i l k w (11 - i) (i + 1)
theorem sFps_in (g : Nat → Int32) (i : Nat) (l k w : Int32) : ∀ c j, j + c = 12 → sFps g i l k w c j = -2 ∨ vp_in (sFps g i l k w c j) 12
  | 0, _, _ => Or.inl rfl
  | c + 1, j, h => by
    unfold sFps
    split
    · exact Or.inr (vp_in_nI (by omega) (by omega))
    · exact sFps_in g i l k w c (j + 1) (by omega)
theorem sFp_in (g : Nat → Int32) {i : Nat} (hi : i < 12) (l k w : Int32) : sFp g i l k w = -2 ∨ vp_in (sFp g i l k w) 12 := by
  unfold sFp
  split
  · exact Or.inl rfl
  · exact sFps_in g i l k w _ _ (by omega)
set_option maxHeartbeats 2000000 in
theorem l_firstPartner {E : xCl} {ex : Bool} {I : Nat → Nat → Int32} {J : Nat → Nat → Int64} {P : Nat → Nat → Nat} {i : Nat} (hi : i < 12) (l k w : Int32) (d : Nat) : ∀ c j y7 y8, j + c = 12 → xR (xEx E ex (d + 2)) ex none yX3_firstPartner cX3_firstPartner (some .int) 21 [some (.ref 101), some (.ref 99), some (.int (nI i)), some (.int l), some (.int k), some (.int w), some (.int (nI j)), y7, y8] [] (SH, I, J, P) (xEq (some (.int (sFps (I 99) i l k w c j))) (SH, I, J, P)) := by
  intro c
  induction c with
  | zero =>
    intro j y7 y8 hj
    refine r_iload dX3_firstPartner_21 rfl ?_
    refine r_bipush (v := 12) dX3_firstPartner_23 (by decide) ?_
    refine r_ic_ge 96 dX3_firstPartner_25 (by decide) (fun c25 => ?_) (fun c25 => ?_)
    · refine r_bipush (v := (-2)) dX3_firstPartner_96 (by decide) ?_
      exact r_iret dX3_firstPartner_98 rfl rfl rfl rfl
    · exact absurd (by rw [show j = 12 by omega]; decide) c25
  | succ c ih =>
    intro j y7 y8 hj
    refine r_iload dX3_firstPartner_21 rfl ?_
    refine r_bipush (v := 12) dX3_firstPartner_23 (by decide) ?_
    refine r_ic_ge 96 dX3_firstPartner_25 (by decide) (fun c25 => ?_) (fun c25 => ?_)
    · exact absurd c25 (lt12 (by omega))
    · refine r_iload_n dX3_firstPartner_28 rfl ?_
      refine r_iload dX3_firstPartner_29 rfl ?_
      refine r_ishr dX3_firstPartner_31 ?_
      refine r_iconst (v := 1) dX3_firstPartner_32 (by decide) ?_
      refine r_iand dX3_firstPartner_33 ?_
      refine r_iconst (v := 1) dX3_firstPartner_34 (by decide) ?_
      refine r_ic_ne 42 dX3_firstPartner_35 (by decide) (fun c35 => ?_) (fun c35 => ?_)
      · refine r_iconst (v := 0) dX3_firstPartner_42 (by decide) ?_
        refine r_istore7 dX3_firstPartner_43 rfl ?_
        refine r_aload_n dX3_firstPartner_45 rfl ?_
        refine r_iload_n dX3_firstPartner_46 rfl ?_
        refine r_ialv dX3_firstPartner_47 sh_99 (in12 (by omega)) (congrArg (I 99) (cl12 (by omega))) ?_
        refine r_aload_n dX3_firstPartner_48 rfl ?_
        refine r_iload dX3_firstPartner_49 rfl ?_
        refine r_ialv dX3_firstPartner_51 sh_99 (in12 (by omega)) (congrArg (I 99) (cl12 (by omega))) ?_
        refine r_iadd dX3_firstPartner_52 ?_
        refine r_iconst (v := 2) dX3_firstPartner_53 (by decide) ?_
        refine r_idiv dX3_firstPartner_54 (by decide) ?_
        refine r_istore8 dX3_firstPartner_55 rfl ?_
        refine r_iload dX3_firstPartner_57 rfl ?_
        refine r_if_eq 90 dX3_firstPartner_59 (by decide) (fun c59 => ?_) (fun c59 => ?_)
        · refine r_iinc6 (v := 1) dX3_firstPartner_90 (by decide) rfl ?_
          refine r_goto 21 dX3_firstPartner_93 (by decide) ?_
          rw [nI_1]; rw [sFps, if_neg (fun z => c35 z.1)]; exact ih (j + 1) _ _ (by omega)
        · exact absurd c59 (by decide)
      · refine r_iconst (v := 1) dX3_firstPartner_38 (by decide) ?_
        refine r_goto 43 dX3_firstPartner_39 (by decide) ?_
        refine r_istore7 dX3_firstPartner_43 rfl ?_
        refine r_aload_n dX3_firstPartner_45 rfl ?_
        refine r_iload_n dX3_firstPartner_46 rfl ?_
        refine r_ialv dX3_firstPartner_47 sh_99 (in12 (by omega)) (congrArg (I 99) (cl12 (by omega))) ?_
        refine r_aload_n dX3_firstPartner_48 rfl ?_
        refine r_iload dX3_firstPartner_49 rfl ?_
        refine r_ialv dX3_firstPartner_51 sh_99 (in12 (by omega)) (congrArg (I 99) (cl12 (by omega))) ?_
        refine r_iadd dX3_firstPartner_52 ?_
        refine r_iconst (v := 2) dX3_firstPartner_53 (by decide) ?_
        refine r_idiv dX3_firstPartner_54 (by decide) ?_
        refine r_istore8 dX3_firstPartner_55 rfl ?_
        refine r_iload dX3_firstPartner_57 rfl ?_
        refine r_if_eq 90 dX3_firstPartner_59 (by decide) (fun c59 => ?_) (fun c59 => ?_)
        · exact absurd c59 (by decide)
        · refine r_iload dX3_firstPartner_62 rfl ?_
          refine r_aload_n dX3_firstPartner_64 rfl ?_
          refine r_aload_n dX3_firstPartner_65 rfl ?_
          refine r_iload_n dX3_firstPartner_66 rfl ?_
          refine r_iconst (v := 1) dX3_firstPartner_67 (by decide) ?_
          refine r_iload dX3_firstPartner_68 rfl ?_
          refine r_ishl dX3_firstPartner_70 ?_
          refine r_iconst (v := (-1)) dX3_firstPartner_71 (by decide) ?_
          refine r_ixor dX3_firstPartner_72 ?_
          refine r_iand dX3_firstPartner_73 ?_
          refine r_iload dX3_firstPartner_74 rfl ?_
          refine r_iconst (v := 1) dX3_firstPartner_76 (by decide) ?_
          refine r_isub dX3_firstPartner_77 ?_
          refine r_cV3i dX3_firstPartner_78 vlX3_31 sh_101 (Nat.le_of_ble_eq_true rfl) (k_gain _ _ d) ?_
          refine r_iadd dX3_firstPartner_81 ?_
          refine r_iload dX3_firstPartner_82 rfl ?_
          refine r_ic_ne 90 dX3_firstPartner_84 (by decide) (fun c84 => ?_) (fun c84 => ?_)
          · refine r_iinc6 (v := 1) dX3_firstPartner_90 (by decide) rfl ?_
            refine r_goto 21 dX3_firstPartner_93 (by decide) ?_
            rw [nI_1]; rw [sFps, if_neg (fun z => c84 z.2)]; exact ih (j + 1) _ _ (by omega)
          · refine r_iload dX3_firstPartner_87 rfl ?_
            exact r_iret dX3_firstPartner_89 rfl rfl (by rw [sFps, if_pos ⟨c35, c84⟩]) rfl
set_option maxHeartbeats 1000000 in
theorem k_firstPartner {E : xCl} {ex : Bool} {I : Nat → Nat → Int32} {J : Nat → Nat → Int64} {P : Nat → Nat → Nat} {i : Nat} (hi : i < 12) (l k w : Int32) (d : Nat) : xEx E ex (d + 3) yX3_firstPartner [.ref 101, .ref 99, .int (nI i), .int l, .int k, .int w] (SH, I, J, P) (some (.int (sFp (I 99) i l k w))) (SH, I, J, P) := by
  refine x_enter cqX3_firstPartner [some (.ref 101), some (.ref 99), some (.int (nI i)), some (.int l), some (.int k), some (.int w), none, none, none] rfl (by simp [lg_sl, Value.category]) ?_
  refine r_aload_n dX3_firstPartner_0 rfl ?_
  refine r_aload_n dX3_firstPartner_1 rfl ?_
  refine r_iload_n dX3_firstPartner_2 rfl ?_
  refine r_iload dX3_firstPartner_3 rfl ?_
  refine r_cV3i dX3_firstPartner_5 vlX3_31 sh_101 (Nat.le_of_ble_eq_true rfl) (k_gain l k d) ?_
  refine r_iload dX3_firstPartner_8 rfl ?_
  refine r_ic_ne 16 dX3_firstPartner_10 (by decide) (fun c10 => ?_) (fun c10 => ?_)
  · refine r_iload_n dX3_firstPartner_16 rfl ?_
    refine r_iconst (v := 1) dX3_firstPartner_17 (by decide) ?_
    refine r_iadd dX3_firstPartner_18 ?_
    refine r_istore6 dX3_firstPartner_19 rfl ?_
    rw [nI_1, sFp, if_neg c10]; exact l_firstPartner hi l k w d (11 - i) (i + 1) _ _ (by omega)
  · refine r_bipush (v := (-2)) dX3_firstPartner_13 (by decide) ?_
    exact r_iret dX3_firstPartner_15 rfl rfl (by rw [sFp, if_pos c10]) rfl
abbrev cS : Type := Int32 × Int32 × Int32 × (Nat → Int32)
abbrev cS.l (S : cS) : Int32 := S.1
abbrev cS.k (S : cS) : Int32 := S.2.1
abbrev cS.w (S : cS) : Int32 := S.2.2.1
abbrev cS.p (S : cS) : Nat → Int32 := S.2.2.2
abbrev cS.mk (l k w : Int32) (p : Nat → Int32) : cS := (l, k, w, p)
def up (p : Nat → Int32) (k : Nat) (v : Int32) : Nat → Int32 := fun q => if q = k then v else p q
def xP (I : Nat → Nat → Int32) (a : Nat) (p : Nat → Int32) : Nat → Nat → Int32 := fun a' k => if a' = a then p k else I a' k
theorem xP_s (I : Nat → Nat → Int32) (a : Nat) (p : Nat → Int32) (k : Nat) (v : Int32) : xu (xP I a p) a k v = xP I a (up p k v) := by
  funext a' k'
  simp only [xu, xP, up]
  by_cases h : a' = a
  · subst h; simp
  · simp [h]
theorem xP_0 (I : Nat → Nat → Int32) (a : Nat) : xP I a (I a) = I := by
  funext a' k
  simp only [xP]
  split
  · rename_i h; rw [h]
  · rfl
theorem xP_o (I : Nat → Nat → Int32) (a : Nat) (p : Nat → Int32) {a' : Nat} (h : a' ≠ a) : xP I a p a' = I a' := by funext k; simp [xP, h]
def mk1 (S : cS) (i : Nat) : Int32 := S.l &&& ((1 <<< (nI i &&& 31)) ^^^ (-1))
def stCh (g : Nat → Int32) (S : cS) (i : Nat) : cS :=
  if (S.l >>> (nI i &&& 31)) &&& 1 = 0 then S else
  if sFp g i (mk1 S i) S.k S.w < 0 then ⟨mk1 S i, S.k, S.w, up S.p i (sFp g i (mk1 S i) S.k S.w)⟩ else
  ⟨mk1 S i &&& ((1 <<< (sFp g i (mk1 S i) S.k S.w &&& 31)) ^^^ (-1)), S.k + (-1), S.w - (g i + g (sFp g i (mk1 S i) S.k S.w).toNatClampNeg) / 2, up (up S.p i (sFp g i (mk1 S i) S.k S.w)) (sFp g i (mk1 S i) S.k S.w).toNatClampNeg (nI i)⟩
def sCho (g : Nat → Int32) (S : cS) : Nat → cS
  | 0 => S
  | i + 1 => stCh g (sCho g S i) i
set_option maxHeartbeats 2000000 in
theorem t_choose {E : xCl} {ex : Bool} {I : Nat → Nat → Int32} {J : Nat → Nat → Int64} {P : Nat → Nat → Nat} (hP : Pok P) {j : Nat} (hj : j < 12) (w k0 : Int32) (S : cS) (y : Option Value) (d : Nat) {Q : Option Value → xS → Prop} (k : ∀ y, xR (xEx E ex (d + 3)) ex none yX3_choose cX3_choose none 19 [some (.ref 101), some (.ref 99), some (.int w), some (.int k0), some (.int (stCh (I 99) S j).l), some (.int (stCh (I 99) S j).k), some (.int (stCh (I 99) S j).w), some (.int (nI (j + 1))), y] [] (SH, xP I 102 (stCh (I 99) S j).p, J, P) Q) : xR (xEx E ex (d + 3)) ex none yX3_choose cX3_choose none 19 [some (.ref 101), some (.ref 99), some (.int w), some (.int k0), some (.int S.l), some (.int S.k), some (.int S.w), some (.int (nI j)), y] [] (SH, xP I 102 S.p, J, P) Q := by
  refine r_iload dX3_choose_19 rfl ?_
  refine r_bipush (v := 12) dX3_choose_21 (by decide) ?_
  refine r_ic_ge 124 dX3_choose_23 (by decide) (fun c23 => ?_) (fun c23 => ?_)
  · exact absurd c23 (lt12 hj)
  · refine r_iload dX3_choose_26 rfl ?_
    refine r_iload dX3_choose_28 rfl ?_
    refine r_ishr dX3_choose_30 ?_
    refine r_iconst (v := 1) dX3_choose_31 (by decide) ?_
    refine r_iand dX3_choose_32 ?_
    refine r_if_ne 39 dX3_choose_33 (by decide) (fun c33 => ?_) (fun c33 => ?_)
    · refine r_iload dX3_choose_39 rfl ?_
      refine r_iconst (v := 1) dX3_choose_41 (by decide) ?_
      refine r_iload dX3_choose_42 rfl ?_
      refine r_ishl dX3_choose_44 ?_
      refine r_iconst (v := (-1)) dX3_choose_45 (by decide) ?_
      refine r_ixor dX3_choose_46 ?_
      refine r_iand dX3_choose_47 ?_
      refine r_istore4 dX3_choose_48 rfl ?_
      refine r_aload_n dX3_choose_50 rfl ?_
      refine r_aload_n dX3_choose_51 rfl ?_
      refine r_iload dX3_choose_52 rfl ?_
      refine r_iload dX3_choose_54 rfl ?_
      refine r_iload dX3_choose_56 rfl ?_
      refine r_iload dX3_choose_58 rfl ?_
      refine r_cV5i dX3_choose_60 vlX3_35 sh_101 (Nat.le_of_ble_eq_true rfl) (by have z := k_firstPartner (E := E) (ex := ex) (I := xP I 102 S.p) (J := J) (P := P) hj (mk1 S j) S.k S.w d; rw [xP_o _ _ _ (by decide)] at z; exact z) ?_
      refine r_istore8 dX3_choose_63 rfl ?_
      refine r_aload_n dX3_choose_65 rfl ?_
      refine r_getR dX3_choose_66 flX3_9 sh_101 (by decide) rfl (pf_101_0 hP) ?_
      refine r_iload dX3_choose_69 rfl ?_
      refine r_iload dX3_choose_71 rfl ?_
      refine r_iasv dX3_choose_73 sh_102 (in12 hj) ((congrArg (fun z => xu _ _ z _) (cl12 hj)).trans (xP_s _ _ _ _ _)) ?_
      refine r_iload dX3_choose_74 rfl ?_
      refine r_if_lt 118 dX3_choose_76 (by decide) (fun c76 => ?_) (fun c76 => ?_)
      · refine r_iinc7 (v := 1) dX3_choose_118 (by decide) rfl ?_
        refine r_goto 19 dX3_choose_121 (by decide) ?_
        rw [nI_1]; rw [stCh, if_neg c33, if_pos c76] at k; exact k _
      · refine r_aload_n dX3_choose_79 rfl ?_
        refine r_getR dX3_choose_80 flX3_9 sh_101 (by decide) rfl (pf_101_0 hP) ?_
        refine r_iload dX3_choose_83 rfl ?_
        refine r_iload dX3_choose_85 rfl ?_
        refine r_iasv dX3_choose_87 sh_102 ((sFp_in (I 99) hj (mk1 S j) S.k S.w).resolve_left (fun z => absurd (by rw [z]; decide) c76)) (xP_s _ _ _ _ _) ?_
        refine r_iload dX3_choose_88 rfl ?_
        refine r_iconst (v := 1) dX3_choose_90 (by decide) ?_
        refine r_iload dX3_choose_91 rfl ?_
        refine r_ishl dX3_choose_93 ?_
        refine r_iconst (v := (-1)) dX3_choose_94 (by decide) ?_
        refine r_ixor dX3_choose_95 ?_
        refine r_iand dX3_choose_96 ?_
        refine r_istore4 dX3_choose_97 rfl ?_
        refine r_iinc5 (v := (-1)) dX3_choose_99 (by decide) rfl ?_
        refine r_iload dX3_choose_102 rfl ?_
        refine r_aload_n dX3_choose_104 rfl ?_
        refine r_iload dX3_choose_105 rfl ?_
        refine r_ialv dX3_choose_107 sh_99 (in12 hj) ((congrFun (xP_o _ _ _ (by decide)) _).trans (congrArg (I 99) (cl12 hj))) ?_
        refine r_aload_n dX3_choose_108 rfl ?_
        refine r_iload dX3_choose_109 rfl ?_
        refine r_ialv dX3_choose_111 sh_99 ((sFp_in (I 99) hj (mk1 S j) S.k S.w).resolve_left (fun z => absurd (by rw [z]; decide) c76)) ((congrFun (xP_o _ _ _ (by decide)) _).trans rfl) ?_
        refine r_iadd dX3_choose_112 ?_
        refine r_iconst (v := 2) dX3_choose_113 (by decide) ?_
        refine r_idiv dX3_choose_114 (by decide) ?_
        refine r_isub dX3_choose_115 ?_
        refine r_istore6 dX3_choose_116 rfl ?_
        refine r_iinc7 (v := 1) dX3_choose_118 (by decide) rfl ?_
        refine r_goto 19 dX3_choose_121 (by decide) ?_
        rw [nI_1]; rw [stCh, if_neg c33, if_neg c76] at k; exact k _
    · refine r_goto 118 dX3_choose_36 (by decide) ?_
      refine r_iinc7 (v := 1) dX3_choose_118 (by decide) rfl ?_
      refine r_goto 19 dX3_choose_121 (by decide) ?_
      rw [nI_1]; rw [stCh, if_pos c33] at k; exact k _
theorem l_choose {E : xCl} {ex : Bool} {I : Nat → Nat → Int32} {J : Nat → Nat → Int64} {P : Nat → Nat → Nat} (hP : Pok P) (w k0 : Int32) (S : cS) (d : Nat) : ∀ j, j ≤ 12 → ∀ y, xR (xEx E ex (d + 3)) ex none yX3_choose cX3_choose none 19 [some (.ref 101), some (.ref 99), some (.int w), some (.int k0), some (.int (sCho (I 99) S j).l), some (.int (sCho (I 99) S j).k), some (.int (sCho (I 99) S j).w), some (.int (nI j)), y] [] (SH, xP I 102 (sCho (I 99) S j).p, J, P) (xEq none (SH, xP I 102 (sCho (I 99) S 12).p, J, P)) := by
  refine r_for (fun j => ∀ y, xR (xEx E ex (d + 3)) ex none yX3_choose cX3_choose none 19 [some (.ref 101), some (.ref 99), some (.int w), some (.int k0), some (.int (sCho (I 99) S j).l), some (.int (sCho (I 99) S j).k), some (.int (sCho (I 99) S j).w), some (.int (nI j)), y] [] (SH, xP I 102 (sCho (I 99) S j).p, J, P) (xEq none (SH, xP I 102 (sCho (I 99) S 12).p, J, P))) _ ?_ ?_
  · intro j hj ih y
    exact t_choose hP hj w k0 (sCho (I 99) S j) y d ih
  · intro y
    refine r_iload dX3_choose_19 rfl ?_
    refine r_bipush (v := 12) dX3_choose_21 (by decide) ?_
    refine r_ic_ge 124 dX3_choose_23 (by decide) (fun c23 => ?_) (fun c23 => ?_)
    · exact r_vret dX3_choose_124 rfl rfl rfl
    · exact absurd (by decide) c23
set_option maxHeartbeats 1000000 in
theorem k_choose {E : xCl} {ex : Bool} {I : Nat → Nat → Int32} {J : Nat → Nat → Int64} {P : Nat → Nat → Nat} (hP : Pok P) (w k : Int32) (d : Nat) : xEx E ex (d + 4) yX3_choose [.ref 101, .ref 99, .int w, .int k] (SH, I, J, P) none (SH, xP I 102 (sCho (I 99) (cS.mk w k (sGain (I 99) w k) (I 102)) 12).p, J, P) := by
  refine x_enter cqX3_choose [some (.ref 101), some (.ref 99), some (.int w), some (.int k), none, none, none, none, none] rfl (by simp [lg_sl, Value.category]) ?_
  refine r_iload_n dX3_choose_0 rfl ?_
  refine r_istore4 dX3_choose_1 rfl ?_
  refine r_iload_n dX3_choose_3 rfl ?_
  refine r_istore5 dX3_choose_4 rfl ?_
  refine r_aload_n dX3_choose_6 rfl ?_
  refine r_aload_n dX3_choose_7 rfl ?_
  refine r_iload dX3_choose_8 rfl ?_
  refine r_iload_n dX3_choose_10 rfl ?_
  refine r_cV3i dX3_choose_11 vlX3_31 sh_101 (Nat.le_of_ble_eq_true rfl) (k_gain w k (d + 1)) ?_
  refine r_istore6 dX3_choose_14 rfl ?_
  refine r_iconst (v := 0) dX3_choose_16 (by decide) ?_
  refine r_istore7 dX3_choose_17 rfl ?_
  have z := l_choose (E := E) (ex := ex) (I := I) (J := J) hP w k (cS.mk w k (sGain (I 99) w k) (I 102)) d 0 (by decide) none; rw [show (sCho (I 99) (cS.mk w k (sGain (I 99) w k) (I 102)) 0).p = I 102 from rfl, xP_0] at z; exact z
abbrev okK (k : Int32) : Prop := ¬ k < 0 ∧ k ≤ 5
theorem wB_99 (I V : Nat → Nat → Int32) : wB I 56 V 99 = I 99 := funext (fun k => wB_o I 56 V (br_x _ hb56 99 (by decide)) k)
theorem wB_102 (I V : Nat → Nat → Int32) : wB I 56 V 102 = I 102 := funext (fun k => wB_o I 56 V (br_x _ hb56 102 (by decide)) k)
theorem xP_wB (I V : Nat → Nat → Int32) (p : Nat → Int32) : xP (wB I 56 V) 102 p = wB (xP I 102 p) 56 V := by
  funext a k
  by_cases h : a = 102
  · subst h
    rw [wB_o _ 56 V (br_x _ hb56 102 (by decide))]
    simp [xP]
  · by_cases h2 : a < 56 ∨ 56 + 11 < a
    · rw [wB_o _ 56 V h2]
      simp only [xP, if_neg h]
      exact wB_o _ 56 V h2 k
    · simp only [xP, if_neg h, wB]
set_option maxHeartbeats 1000000 in
theorem k_twists_n {E : xCl} {ex : Bool} {I V : Nat → Nat → Int32} {J : Nat → Nat → Int64} {P : Nat → Nat → Nat} {k : Int32} (h : ¬ okK k) (d : Nat) : xEx E ex (d + 1) yX10_twists [.ref 0, .int k] (SH, wB I 56 V, J, P) (some (.int (-1))) (SH, wB I 56 V, J, P) := by
  refine x_enter cqX10_twists [some (.ref 0), some (.int k)] rfl (by simp [lg_sl, Value.category]) ?_
  refine r_iload_n dX10_twists_0 rfl ?_
  refine r_if_lt 9 dX10_twists_1 (by decide) (fun c1 => ?_) (fun c1 => ?_)
  · refine r_iconst (v := (-1)) dX10_twists_9 (by decide) ?_
    exact r_iret dX10_twists_10 rfl rfl rfl rfl
  · refine r_iload_n dX10_twists_4 rfl ?_
    refine r_iconst (v := 5) dX10_twists_5 (by decide) ?_
    refine r_ic_le 11 dX10_twists_6 (by decide) (fun c6 => ?_) (fun c6 => ?_)
    · exact absurd ⟨c1, c6⟩ h
    · refine r_iconst (v := (-1)) dX10_twists_9 (by decide) ?_
      exact r_iret dX10_twists_10 rfl rfl rfl rfl
set_option maxHeartbeats 1000000 in
theorem k_twists {E : xCl} {ex : Bool} {I V : Nat → Nat → Int32} {J : Nat → Nat → Int64} {P : Nat → Nat → Nat} (hP : Pok P) {t : Nat} (ht : t ∈ TL) (hx5 : P 0 5 = t + 1) (hbt : P 56 0 = t + 1) {n : Nat} (hv : Vok V n) (hL : Lok I t) {k : Int32} (h : okK k) (d : Nat) : ∃ J', xEx E ex (d + 7) yX10_twists [.ref 0, .int k] (SH, wB I 56 V, J, P) (some (.int (sUt V ((wRw I (gS V (Lv I t)) (gT V (Lv I t)) n) 99) n + sGain ((wRw I (gS V (Lv I t)) (gT V (Lv I t)) n) 99) (sTB V n) k))) (SH, wB (wRw I (gS V (Lv I t)) (gT V (Lv I t)) n) 56 V, J', P) ∧ Jok J J' t := by
  refine Qj.use (x_enterq (d := d + 6) cqX10_twists [some (.ref 0), some (.int k)] rfl (by simp [lg_sl, Value.category]) ?_)
  refine r_iload_n dX10_twists_0 rfl ?_
  refine r_if_lt 9 dX10_twists_1 (by decide) (fun c1 => ?_) (fun c1 => ?_)
  · exact absurd c1 h.1
  · refine r_iload_n dX10_twists_4 rfl ?_
    refine r_iconst (v := 5) dX10_twists_5 (by decide) ?_
    refine r_ic_le 11 dX10_twists_6 (by decide) (fun c6 => ?_) (fun c6 => ?_)
    · refine r_aload_n dX10_twists_11 rfl ?_
      refine r_getR dX10_twists_12 flX10_65 sh_0 (by decide) rfl (pf_0_15 hP) ?_
      refine r_aload_n dX10_twists_15 rfl ?_
      refine r_getR dX10_twists_16 flX10_42 sh_0 (by decide) rfl (pf_0_7 hP) ?_
      obtain ⟨J19, hx19, hj19⟩ := k_weigh (E := E) (ex := ex) (J := J) hP hb56 ht hbt hv hL (d + 0)
      refine r_cV1v dX10_twists_19 vlX10_294 sh_98 (Nat.le_of_ble_eq_true rfl) hx19 ?_
      refine r_aload_n dX10_twists_22 rfl ?_
      refine r_getR dX10_twists_23 flX10_65 sh_0 (by decide) rfl (pf_0_15 hP) ?_
      refine r_aload_n dX10_twists_26 rfl ?_
      refine r_getR dX10_twists_27 flX10_42 sh_0 (by decide) rfl (pf_0_7 hP) ?_
      refine r_cV1i dX10_twists_30 vlX10_310 sh_98 (Nat.le_of_ble_eq_true rfl) (k_untwisted hP hb56 hv (d + 5)) ?_
      refine r_aload_n dX10_twists_33 rfl ?_
      refine r_getR dX10_twists_34 flX10_72 sh_0 (by decide) rfl (pf_0_16 hP) ?_
      refine r_aload_n dX10_twists_37 rfl ?_
      refine r_getR dX10_twists_38 flX10_65 sh_0 (by decide) rfl (pf_0_15 hP) ?_
      refine r_getR dX10_twists_41 flX10_314 sh_98 (by decide) rfl (pf_98_0 hP) ?_
      refine r_aload_n dX10_twists_44 rfl ?_
      refine r_getR dX10_twists_45 flX10_42 sh_0 (by decide) rfl (pf_0_7 hP) ?_
      refine r_cV0i dX10_twists_48 vlX10_279 (br_s _ hb56) (Nat.le_of_ble_eq_true rfl) (k_thereBits hP hb56 hv (d + 3)) ?_
      refine r_iload_n dX10_twists_51 rfl ?_
      refine r_cV3i dX10_twists_52 vlX10_317 sh_101 (Nat.le_of_ble_eq_true rfl) (by have z := k_gain (E := E) (ex := ex) (I := wB (wRw I (gS V (Lv I t)) (gT V (Lv I t)) n) 56 V) (J := J19) (P := P) (sTB V n) k (d + 4); rw [wB_99] at z; exact z) ?_
      refine r_iadd dX10_twists_55 ?_
      exact r_iretq dX10_twists_56 rfl rfl (Qj.mk hj19)
    · exact absurd h.2 c6
set_option maxHeartbeats 1000000 in
theorem k_partner_n {E : xCl} {ex : Bool} {I V : Nat → Nat → Int32} {J : Nat → Nat → Int64} {P : Nat → Nat → Nat} (hP : Pok P) {t : Nat} (ht : t ∈ TL) (hx5 : P 0 5 = t + 1) (hbt : P 56 0 = t + 1) {k s : Int32} (h : ¬ (okK k ∧ sTh V s)) (d : Nat) : xEx E ex (d + 3) yX10_partner [.ref 0, .int k, .int s] (SH, wB I 56 V, J, P) (some (.int (-1))) (SH, wB I 56 V, J, P) := by
  refine x_enter cqX10_partner [some (.ref 0), some (.int k), some (.int s)] rfl (by simp [lg_sl, Value.category]) ?_
  refine r_iload_n dX10_partner_0 rfl ?_
  refine r_if_lt 20 dX10_partner_1 (by decide) (fun c1 => ?_) (fun c1 => ?_)
  · refine r_iconst (v := (-1)) dX10_partner_20 (by decide) ?_
    exact r_iret dX10_partner_21 rfl rfl rfl rfl
  · refine r_iload_n dX10_partner_4 rfl ?_
    refine r_iconst (v := 5) dX10_partner_5 (by decide) ?_
    refine r_ic_gt 20 dX10_partner_6 (by decide) (fun c6 => ?_) (fun c6 => ?_)
    · refine r_iconst (v := (-1)) dX10_partner_20 (by decide) ?_
      exact r_iret dX10_partner_21 rfl rfl rfl rfl
    · refine r_aload_n dX10_partner_9 rfl ?_
      refine r_getR dX10_partner_10 flX10_42 sh_0 (by decide) rfl (pf_0_7 hP) ?_
      refine r_iload_n dX10_partner_13 rfl ?_
      by_cases h14 : sTh V s
      · refine r_cV1i dX10_partner_14 vlX10_220 (br_s _ hb56) (Nat.le_of_ble_eq_true rfl) (k_isThere_t hP hb56 h14 d) ?_
        refine r_if_ne 22 dX10_partner_17 (by decide) (fun c17 => ?_) (fun c17 => ?_)
        · exact absurd ⟨⟨c1, Int32.not_lt.mp c6⟩, h14⟩ h
        · exact absurd c17 (by decide)
      · refine r_cV1i dX10_partner_14 vlX10_220 (br_s _ hb56) (Nat.le_of_ble_eq_true rfl) (k_isThere_f hP hb56 h14 d) ?_
        refine r_if_ne 22 dX10_partner_17 (by decide) (fun c17 => ?_) (fun c17 => ?_)
        · exact absurd c17 (by decide)
        · refine r_iconst (v := (-1)) dX10_partner_20 (by decide) ?_
          exact r_iret dX10_partner_21 rfl rfl rfl rfl
set_option maxHeartbeats 1000000 in
theorem k_partner {E : xCl} {ex : Bool} {I V : Nat → Nat → Int32} {J : Nat → Nat → Int64} {P : Nat → Nat → Nat} (hP : Pok P) {t : Nat} (ht : t ∈ TL) (hx5 : P 0 5 = t + 1) (hbt : P 56 0 = t + 1) {n : Nat} (hv : Vok V n) (hL : Lok I t) {k s : Int32} (h : okK k ∧ sTh V s) (d : Nat) : ∃ J', xEx E ex (d + 7) yX10_partner [.ref 0, .int k, .int s] (SH, wB I 56 V, J, P) (some (.int ((sCho ((wRw I (gS V (Lv I t)) (gT V (Lv I t)) n) 99) (cS.mk (sTB V n) k (sGain ((wRw I (gS V (Lv I t)) (gT V (Lv I t)) n) 99) (sTB V n) k) ((wRw I (gS V (Lv I t)) (gT V (Lv I t)) n) 102)) 12).p s.toNatClampNeg))) (SH, wB (xP (wRw I (gS V (Lv I t)) (gT V (Lv I t)) n) 102 (sCho ((wRw I (gS V (Lv I t)) (gT V (Lv I t)) n) 99) (cS.mk (sTB V n) k (sGain ((wRw I (gS V (Lv I t)) (gT V (Lv I t)) n) 99) (sTB V n) k) ((wRw I (gS V (Lv I t)) (gT V (Lv I t)) n) 102)) 12).p) 56 V, J', P) ∧ Jok J J' t := by
  refine Qj.use (x_enterq (d := d + 6) cqX10_partner [some (.ref 0), some (.int k), some (.int s)] rfl (by simp [lg_sl, Value.category]) ?_)
  refine r_iload_n dX10_partner_0 rfl ?_
  refine r_if_lt 20 dX10_partner_1 (by decide) (fun c1 => ?_) (fun c1 => ?_)
  · exact absurd c1 h.1.1
  · refine r_iload_n dX10_partner_4 rfl ?_
    refine r_iconst (v := 5) dX10_partner_5 (by decide) ?_
    refine r_ic_gt 20 dX10_partner_6 (by decide) (fun c6 => ?_) (fun c6 => ?_)
    · exact absurd c6 (Int32.not_lt.mpr h.1.2)
    · refine r_aload_n dX10_partner_9 rfl ?_
      refine r_getR dX10_partner_10 flX10_42 sh_0 (by decide) rfl (pf_0_7 hP) ?_
      refine r_iload_n dX10_partner_13 rfl ?_
      refine r_cV1i dX10_partner_14 vlX10_220 (br_s _ hb56) (Nat.le_of_ble_eq_true rfl) (k_isThere_t hP hb56 h.2 (d + 4)) ?_
      refine r_if_ne 22 dX10_partner_17 (by decide) (fun c17 => ?_) (fun c17 => ?_)
      · refine r_aload_n dX10_partner_22 rfl ?_
        refine r_getR dX10_partner_23 flX10_65 sh_0 (by decide) rfl (pf_0_15 hP) ?_
        refine r_aload_n dX10_partner_26 rfl ?_
        refine r_getR dX10_partner_27 flX10_42 sh_0 (by decide) rfl (pf_0_7 hP) ?_
        obtain ⟨J30, hx30, hj30⟩ := k_weigh (E := E) (ex := ex) (J := J) hP hb56 ht hbt hv hL (d + 0)
        refine r_cV1v dX10_partner_30 vlX10_294 sh_98 (Nat.le_of_ble_eq_true rfl) hx30 ?_
        refine r_aload_n dX10_partner_33 rfl ?_
        refine r_getR dX10_partner_34 flX10_72 sh_0 (by decide) rfl (pf_0_16 hP) ?_
        refine r_aload_n dX10_partner_37 rfl ?_
        refine r_getR dX10_partner_38 flX10_65 sh_0 (by decide) rfl (pf_0_15 hP) ?_
        refine r_getR dX10_partner_41 flX10_314 sh_98 (by decide) rfl (pf_98_0 hP) ?_
        refine r_aload_n dX10_partner_44 rfl ?_
        refine r_getR dX10_partner_45 flX10_42 sh_0 (by decide) rfl (pf_0_7 hP) ?_
        refine r_cV0i dX10_partner_48 vlX10_279 (br_s _ hb56) (Nat.le_of_ble_eq_true rfl) (k_thereBits hP hb56 hv (d + 3)) ?_
        refine r_iload_n dX10_partner_51 rfl ?_
        refine r_cV3v dX10_partner_52 vlX10_321 sh_101 (Nat.le_of_ble_eq_true rfl) (by have z := k_choose (E := E) (ex := ex) (I := wB (wRw I (gS V (Lv I t)) (gT V (Lv I t)) n) 56 V) (J := J30) (P := P) hP (sTB V n) k (d + 2); rw [wB_99, wB_102, xP_wB] at z; exact z) ?_
        refine r_aload_n dX10_partner_55 rfl ?_
        refine r_getR dX10_partner_56 flX10_72 sh_0 (by decide) rfl (pf_0_16 hP) ?_
        refine r_getR dX10_partner_59 flX10_325 sh_101 (by decide) rfl (pf_101_0 hP) ?_
        refine r_iload_n dX10_partner_62 rfl ?_
        refine r_ialv dX10_partner_63 sh_102 h.2.in (show _ = (sCho ((wRw I (gS V (Lv I t)) (gT V (Lv I t)) n) 99) (cS.mk (sTB V n) k (sGain ((wRw I (gS V (Lv I t)) (gT V (Lv I t)) n) 99) (sTB V n) k) ((wRw I (gS V (Lv I t)) (gT V (Lv I t)) n) 102)) 12).p s.toNatClampNeg from by rw [wB_o _ 56 V (br_x _ hb56 102 (by decide))]; simp only [xP, if_true]) ?_
        exact r_iretq dX10_partner_64 rfl rfl (Qj.mk hj30)
      · exact absurd c17 (by decide)
