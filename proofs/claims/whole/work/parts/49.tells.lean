/-! tells, loans -/
theorem stC_T {T T' : Nat → Nat → Int32} (h : ∀ o, o < 13 → T' o = T o) (V : Nat → Nat → Int32) (Lw : Nat → (Nat → Int64) → Int64) (n j : Nat) : stC V Lw n T' j = stC V Lw n T j := by
  unfold stC; rw [h 3 (by omega), h 4 (by omega), h 5 (by omega), h 6 (by omega)]
theorem sCA_T {T T' : Nat → Nat → Int32} (h : ∀ o, o < 13 → T' o = T o) (V : Nat → Nat → Int32) (Lw : Nat → (Nat → Int64) → Int64) (n : Nat) : ∀ j, sCA V Lw n T' j = sCA V Lw n T j
  | 0 => rfl
  | j + 1 => by rw [sCA, sCA, sCA_T h V Lw n j, stC_T h]
theorem sRf_T {T T' : Nat → Nat → Int32} (h : ∀ o, o < 13 → T' o = T o) (V : Nat → Nat → Int32) (Lw : Nat → (Nat → Int64) → Int64) (n : Nat) : ∀ j, sRf V Lw n T' j = sRf V Lw n T j
  | 0 => rfl
  | j + 1 => by rw [sRf, sRf, sRf_T h V Lw n j, sCA_T h]; unfold rfC; rw [h 3 (by omega), h 4 (by omega), h 5 (by omega), h 6 (by omega)]
theorem sGo_T {T T' : Nat → Nat → Int32} (h : ∀ o, o < 13 → T' o = T o) (V : Nat → Nat → Int32) (Lw : Nat → (Nat → Int64) → Int64) (n m : Nat) (lo : Int32) : sGo V Lw n T' m lo = sGo V Lw n T m lo := by unfold sGo; rw [sCA_T h]
theorem sYr_T {T T' : Nat → Nat → Int32} (h : ∀ o, o < 13 → T' o = T o) (V : Nat → Nat → Int32) (Lw : Nat → (Nat → Int64) → Int64) (n m : Nat) : ∀ j, sYr V Lw n T' m j = sYr V Lw n T m j
  | 0 => rfl
  | j + 1 => by rw [sYr, sYr, sYr_T h V Lw n m j, sGo_T h]
theorem bo106 : ∀ b ∈ BR, ∀ f, f < 12 → b + f ≠ 106 := by decide +kernel
theorem to106 : ∀ t ∈ TL, ∀ f, f < 13 → t + f ≠ 106 := by decide +kernel
theorem vB_106 {I I' : Nat → Nat → Int32} (h : ∀ a k, a ≠ 106 → I' a k = I a k) {b : Nat} (hb : b ∈ BR) : vB I' b = vB I b := by
  funext f k
  simp only [vB]
  split
  · exact h _ _ (bo106 b hb f (by assumption))
  · exact h _ _ (bo106 b hb 0 (by omega))
theorem tl_106 {I I' : Nat → Nat → Int32} (h : ∀ a k, a ≠ 106 → I' a k = I a k) {t : Nat} (ht : t ∈ TL) : ∀ f k, f < 13 → I' (t + f) k = I (t + f) k := fun f k hf => h _ _ (to106 t ht f hf)
theorem mk_106 {I I' : Nat → Nat → Int32} (h : ∀ a k, a ≠ 106 → I' a k = I a k) {t : Nat} (ht : t ∈ TL) (nF m : Nat) (c w : Int32) (s : Nat) : (sMk I' (fun y => sBr ((sYr (sPa (vB I' 44) c (I' t 9)) (Lv I' t) nF (fun o => I' (t + o)) m) y) (Lv I' t) nF) w s (lastY I' w s)) = (sMk I (fun y => sBr ((sYr (sPa (vB I 44) c (I t 9)) (Lv I t) nF (fun o => I (t + o)) m) y) (Lv I t) nF) w s (lastY I w s)) := by
  have e1 : Lv I' t = Lv I t := Lv_of (tl_106 h ht)
  have e2 := vB_106 h hb44
  have e3 : I' t 9 = I t 9 := tl_106 h ht 0 9 (by omega)
  have e4 : ∀ o, o < 13 → (fun o => I' (t + o)) o = (fun o => I (t + o)) o := fun o ho => funext (fun k => tl_106 h ht o k ho)
  have e5 : lastY I' w s = lastY I w s := by unfold lastY; rw [sLy_eq (fun k => h 94 k (by decide))]
  unfold sMk
  rw [e5]
  simp only [sYr_T e4, e1, e2, e3, okA, h 94 _ (by decide : (94:Nat) ≠ 106), h 95 _ (by decide : (95:Nat) ≠ 106), h 96 _ (by decide : (96:Nat) ≠ 106), h 97 _ (by decide : (97:Nat) ≠ 106)]
def sFq (g : Nat → Int32) (x : Int32) (i : Nat) : Nat → Int32
  | 0 => 1
  | j + 1 => if sSag x (g i) = sSag x (g j) then 0 else sFq g x i j
def sWy (g : Nat → Int32) (x : Int32) : Nat → Int32
  | 0 => 0
  | i + 1 => if sFq g x i i = 0 then sWy g x i else sWy g x i + 1
theorem in11 {j : Nat} (h : j < 11) : vp_in (nI j) 11 := vp_in_nI h (by omega)
theorem cl11 {j : Nat} (h : j < 11) : (nI j).toNatClampNeg = j := nI_clamp (by omega)
theorem lt11 {j : Nat} (h : j < 11) : ¬ Int32.ofNat 11 ≤ nI j := fun q => nI_ge (a := j) (b := 11) h (by omega) q
set_option maxHeartbeats 1000000 in
theorem t_ways {E : xCl} {ex : Bool} {I : Nat → Nat → Int32} {J : Nat → Nat → Int64} {P : Nat → Nat → Nat} (hP : Pok P) {q i : Nat} (hq : q ≤ 11) (hi : i < q) (x r : Int32) (d : Nat) {Q : Option Value → xS → Prop} (kk : xR (xEx E ex (d + 1)) ex none yX10_waysOf cX10_waysOf (some .int) 68 [some (.ref 0), some (.int x), some (.int (nI q)), some (.int r), some (.int (nI i)), some (.int (sFq (I 106) x i i)), some (.int (nI i))] [] (SH, I, J, P) Q) : ∀ j, j ≤ i → xR (xEx E ex (d + 1)) ex none yX10_waysOf cX10_waysOf (some .int) 27 [some (.ref 0), some (.int x), some (.int (nI q)), some (.int r), some (.int (nI i)), some (.int (sFq (I 106) x i j)), some (.int (nI j))] [] (SH, I, J, P) Q := by
  refine r_for (fun j => xR (xEx E ex (d + 1)) ex none yX10_waysOf cX10_waysOf (some .int) 27 [some (.ref 0), some (.int x), some (.int (nI q)), some (.int r), some (.int (nI i)), some (.int (sFq (I 106) x i j)), some (.int (nI j))] [] (SH, I, J, P) Q) _ ?_ ?_
  · intro j hj ih
    refine r_iload dX10_waysOf_27 rfl ?_
    refine r_iload dX10_waysOf_29 rfl ?_
    refine r_ic_ge 68 dX10_waysOf_31 (by decide) (fun c31 => ?_) (fun c31 => ?_)
    · exact absurd c31 (nI_ge hj (by omega))
    · refine r_iload_n dX10_waysOf_34 rfl ?_
      refine r_aload_n dX10_waysOf_35 rfl ?_
      refine r_getR dX10_waysOf_36 flX10_83 sh_0 (by decide) rfl (pf_0_18 hP) ?_
      refine r_iload dX10_waysOf_39 rfl ?_
      refine r_ialv dX10_waysOf_41 sh_106 (in11 (by omega)) (congrArg (I 106) (cl11 (by omega))) ?_
      refine r_cS2i dX10_waysOf_42 slX10_243 (Nat.le_of_ble_eq_true rfl) (k_sagOf _ _ d) ?_
      refine r_iload_n dX10_waysOf_45 rfl ?_
      refine r_aload_n dX10_waysOf_46 rfl ?_
      refine r_getR dX10_waysOf_47 flX10_83 sh_0 (by decide) rfl (pf_0_18 hP) ?_
      refine r_iload dX10_waysOf_50 rfl ?_
      refine r_ialv dX10_waysOf_52 sh_106 (in11 (by omega)) (congrArg (I 106) (cl11 (by omega))) ?_
      refine r_cS2i dX10_waysOf_53 slX10_243 (Nat.le_of_ble_eq_true rfl) (k_sagOf _ _ d) ?_
      refine r_ic_ne 62 dX10_waysOf_56 (by decide) (fun c56 => ?_) (fun c56 => ?_)
      · refine r_iinc6 (v := 1) dX10_waysOf_62 (by decide) rfl ?_
        refine r_goto 27 dX10_waysOf_65 (by decide) ?_
        rw [nI_1]; rw [sFq, if_neg c56] at ih; exact ih
      · refine r_iconst (v := 0) dX10_waysOf_59 (by decide) ?_
        refine r_istore5 dX10_waysOf_60 rfl ?_
        refine r_iinc6 (v := 1) dX10_waysOf_62 (by decide) rfl ?_
        refine r_goto 27 dX10_waysOf_65 (by decide) ?_
        rw [nI_1]; rw [sFq, if_pos c56] at ih; exact ih
  · refine r_iload dX10_waysOf_27 rfl ?_
    refine r_iload dX10_waysOf_29 rfl ?_
    refine r_ic_ge 68 dX10_waysOf_31 (by decide) (fun c31 => ?_) (fun c31 => ?_)
    · exact kk
    · exact absurd (nI_le (Nat.le_refl _) (by omega)) c31
set_option maxHeartbeats 1000000 in
theorem l_ways {E : xCl} {ex : Bool} {I : Nat → Nat → Int32} {J : Nat → Nat → Int64} {P : Nat → Nat → Nat} (hP : Pok P) {q : Nat} (hq : q ≤ 11) (x : Int32) (d : Nat) : ∀ j, j ≤ q → ∀ y5 y6, xR (xEx E ex (d + 1)) ex none yX10_waysOf cX10_waysOf (some .int) 5 [some (.ref 0), some (.int x), some (.int (nI q)), some (.int (sWy (I 106) x j)), some (.int (nI j)), y5, y6] [] (SH, I, J, P) (xEq (some (.int (sWy (I 106) x q))) (SH, I, J, P)) := by
  refine r_for (fun j => ∀ y5 y6, xR (xEx E ex (d + 1)) ex none yX10_waysOf cX10_waysOf (some .int) 5 [some (.ref 0), some (.int x), some (.int (nI q)), some (.int (sWy (I 106) x j)), some (.int (nI j)), y5, y6] [] (SH, I, J, P) (xEq (some (.int (sWy (I 106) x q))) (SH, I, J, P))) _ ?_ ?_
  · intro j hj ih y5 y6
    refine r_iload dX10_waysOf_5 rfl ?_
    refine r_iload_n dX10_waysOf_7 rfl ?_
    refine r_ic_ge 82 dX10_waysOf_8 (by decide) (fun c8 => ?_) (fun c8 => ?_)
    · exact absurd c8 (nI_ge hj (by omega))
    · refine r_iload dX10_waysOf_11 rfl ?_
      refine r_aload_n dX10_waysOf_13 rfl ?_
      refine r_getR dX10_waysOf_14 flX10_83 sh_0 (by decide) rfl (pf_0_18 hP) ?_
      refine r_alen dX10_waysOf_17 sh_106 ?_
      refine r_ic_ge 82 dX10_waysOf_18 (by decide) (fun c18 => ?_) (fun c18 => ?_)
      · exact absurd c18 (lt11 (by omega))
      · refine r_iconst (v := 1) dX10_waysOf_21 (by decide) ?_
        refine r_istore5 dX10_waysOf_22 rfl ?_
        refine r_iconst (v := 0) dX10_waysOf_24 (by decide) ?_
        refine r_istore6 dX10_waysOf_25 rfl ?_
        refine t_ways hP hq hj x _ d ?_ 0 (Nat.zero_le _)
        refine r_iload dX10_waysOf_68 rfl ?_
        refine r_if_eq 76 dX10_waysOf_70 (by decide) (fun c70 => ?_) (fun c70 => ?_)
        · refine r_iinc4 (v := 1) dX10_waysOf_76 (by decide) rfl ?_
          refine r_goto 5 dX10_waysOf_79 (by decide) ?_
          rw [nI_1]; rw [sWy, if_pos c70] at ih; exact ih _ _
        · refine r_iinc3 (v := 1) dX10_waysOf_73 (by decide) rfl ?_
          refine r_iinc4 (v := 1) dX10_waysOf_76 (by decide) rfl ?_
          refine r_goto 5 dX10_waysOf_79 (by decide) ?_
          rw [nI_1]; rw [sWy, if_neg c70] at ih; exact ih _ _
  · intro y5 y6
    refine r_iload dX10_waysOf_5 rfl ?_
    refine r_iload_n dX10_waysOf_7 rfl ?_
    refine r_ic_ge 82 dX10_waysOf_8 (by decide) (fun c8 => ?_) (fun c8 => ?_)
    · refine r_iload_n dX10_waysOf_82 rfl ?_
      exact r_iret dX10_waysOf_83 rfl rfl rfl rfl
    · exact absurd (nI_le (Nat.le_refl _) (by omega)) c8
set_option maxHeartbeats 1000000 in
theorem k_waysOf {E : xCl} {ex : Bool} {I : Nat → Nat → Int32} {J : Nat → Nat → Int64} {P : Nat → Nat → Nat} (hP : Pok P) {q : Nat} (hq : q ≤ 11) (x : Int32) (d : Nat) : xEx E ex (d + 2) yX10_waysOf [.ref 0, .int x, .int (nI q)] (SH, I, J, P) (some (.int (sWy (I 106) x q))) (SH, I, J, P) := by
  refine x_enter cqX10_waysOf [some (.ref 0), some (.int x), some (.int (nI q)), none, none, none, none] rfl (by simp [lg_sl, Value.category]) ?_
  refine r_iconst (v := 0) dX10_waysOf_0 (by decide) ?_
  refine r_istore_n3 dX10_waysOf_1 rfl ?_
  refine r_iconst (v := 0) dX10_waysOf_2 (by decide) ?_
  refine r_istore4 dX10_waysOf_3 rfl ?_
  exact l_ways hP hq x d 0 (Nat.zero_le _) _ _
def sMt (g : Nat → Int32) (q : Nat) : Nat → Int32 × Int32
  | 0 => (0, 0)
  | x + 1 => if sWy g (nI (x + 1)) q ≤ (sMt g q x).2 then sMt g q x else (nI (x + 1), sWy g (nI (x + 1)) q)
theorem sMt_le {g : Nat → Int32} {q x : Nat} (h : sWy g (nI (x + 1)) q ≤ (sMt g q x).2) : sMt g q (x + 1) = sMt g q x := by rw [sMt, if_pos h]
theorem sMt_gt {g : Nat → Int32} {q x : Nat} (h : ¬ sWy g (nI (x + 1)) q ≤ (sMt g q x).2) : sMt g q (x + 1) = (nI (x + 1), sWy g (nI (x + 1)) q) := by rw [sMt, if_neg h]
set_option maxHeartbeats 1000000 in
theorem l_most {E : xCl} {ex : Bool} {I : Nat → Nat → Int32} {J : Nat → Nat → Int64} {P : Nat → Nat → Nat} (hP : Pok P) {q : Nat} (hq : q ≤ 11) (u : Int32) (d : Nat) : ∀ j, j ≤ 200 → ∀ y6, xR (xEx E ex (d + 2)) ex none yX10_mostTelling cX10_mostTelling (some .int) 8 [some (.ref 0), some (.int u), some (.int (nI q)), some (.int (sMt (I 106) q j).1), some (.int (sMt (I 106) q j).2), some (.int (nI (j + 1))), y6] [] (SH, I, J, P) (xEq (some (.int (if u = 0 then (sMt (I 106) q 200).1 else (sMt (I 106) q 200).2))) (SH, I, J, P)) := by
  refine r_for (fun j => ∀ y6, xR (xEx E ex (d + 2)) ex none yX10_mostTelling cX10_mostTelling (some .int) 8 [some (.ref 0), some (.int u), some (.int (nI q)), some (.int (sMt (I 106) q j).1), some (.int (sMt (I 106) q j).2), some (.int (nI (j + 1))), y6] [] (SH, I, J, P) (xEq (some (.int (if u = 0 then (sMt (I 106) q 200).1 else (sMt (I 106) q 200).2))) (SH, I, J, P))) _ ?_ ?_
  · intro j hj ih y6
    refine r_iload dX10_mostTelling_8 rfl ?_
    refine r_sipush (v := 200) dX10_mostTelling_10 (by decide) ?_
    refine r_ic_gt 45 dX10_mostTelling_13 (by decide) (fun c13 => ?_) (fun c13 => ?_)
    · exact absurd c13 (nI_nlt (a := 200) (b := j + 1) (by omega) (by omega))
    · refine r_aload_n dX10_mostTelling_16 rfl ?_
      refine r_iload dX10_mostTelling_17 rfl ?_
      refine r_iload_n dX10_mostTelling_19 rfl ?_
      refine r_cV2i dX10_mostTelling_20 vlX10_358 sh_0 (Nat.le_of_ble_eq_true rfl) (k_waysOf hP hq (nI (j + 1)) d) ?_
      refine r_istore6 dX10_mostTelling_23 rfl ?_
      refine r_iload dX10_mostTelling_25 rfl ?_
      refine r_iload dX10_mostTelling_27 rfl ?_
      refine r_ic_le 39 dX10_mostTelling_29 (by decide) (fun c29 => ?_) (fun c29 => ?_)
      · refine r_iinc5 (v := 1) dX10_mostTelling_39 (by decide) rfl ?_
        refine r_goto 8 dX10_mostTelling_42 (by decide) ?_
        rw [nI_1]; rw [sMt_le c29] at ih; exact ih _
      · refine r_iload dX10_mostTelling_32 rfl ?_
        refine r_istore4 dX10_mostTelling_34 rfl ?_
        refine r_iload dX10_mostTelling_36 rfl ?_
        refine r_istore_n3 dX10_mostTelling_38 rfl ?_
        refine r_iinc5 (v := 1) dX10_mostTelling_39 (by decide) rfl ?_
        refine r_goto 8 dX10_mostTelling_42 (by decide) ?_
        rw [nI_1]; rw [sMt_gt c29] at ih; exact ih _
  · intro y6
    refine r_iload dX10_mostTelling_8 rfl ?_
    refine r_sipush (v := 200) dX10_mostTelling_10 (by decide) ?_
    refine r_ic_gt 45 dX10_mostTelling_13 (by decide) (fun c13 => ?_) (fun c13 => ?_)
    · refine r_iload_n dX10_mostTelling_45 rfl ?_
      refine r_if_ne 53 dX10_mostTelling_46 (by decide) (fun c46 => ?_) (fun c46 => ?_)
      · refine r_iload dX10_mostTelling_53 rfl ?_
        exact r_iret dX10_mostTelling_55 rfl rfl (by rw [if_neg c46]) rfl
      · refine r_iload_n dX10_mostTelling_49 rfl ?_
        refine r_goto 55 dX10_mostTelling_50 (by decide) ?_
        exact r_iret dX10_mostTelling_55 rfl rfl (by rw [if_pos c46]) rfl
    · exact absurd (by decide) c13
set_option maxHeartbeats 1000000 in
theorem k_mostTelling {E : xCl} {ex : Bool} {I : Nat → Nat → Int32} {J : Nat → Nat → Int64} {P : Nat → Nat → Nat} (hP : Pok P) {q : Nat} (hq : q ≤ 11) (u : Int32) (d : Nat) : xEx E ex (d + 3) yX10_mostTelling [.ref 0, .int u, .int (nI q)] (SH, I, J, P) (some (.int (if u = 0 then (sMt (I 106) q 200).1 else (sMt (I 106) q 200).2))) (SH, I, J, P) := by
  refine x_enter cqX10_mostTelling [some (.ref 0), some (.int u), some (.int (nI q)), none, none, none, none] rfl (by simp [lg_sl, Value.category]) ?_
  refine r_iconst (v := 0) dX10_mostTelling_0 (by decide) ?_
  refine r_istore_n3 dX10_mostTelling_1 rfl ?_
  refine r_iconst (v := 0) dX10_mostTelling_2 (by decide) ?_
  refine r_istore4 dX10_mostTelling_3 rfl ?_
  refine r_iconst (v := 1) dX10_mostTelling_5 (by decide) ?_
  refine r_istore5 dX10_mostTelling_6 rfl ?_
  exact l_most hP hq u d 0 (Nat.zero_le _) _
noncomputable def sTl (M : Nat → Prop) (B : Nat → Int32) : Nat → List Int32
  | 0 => []
  | c + 1 => @ite _ (M c) (Classical.propDecidable _) (sTl M B c ++ [B c]) (sTl M B c)
theorem sTl_t {M : Nat → Prop} {B : Nat → Int32} {c : Nat} (h : M c) : sTl M B (c + 1) = sTl M B c ++ [B c] := by rw [sTl, if_pos h]
theorem sTl_f {M : Nat → Prop} {B : Nat → Int32} {c : Nat} (h : ¬ M c) : sTl M B (c + 1) = sTl M B c := by rw [sTl, if_neg h]
theorem sTl_len (M : Nat → Prop) (B : Nat → Int32) : ∀ c, (sTl M B c).length ≤ c
  | 0 => Nat.le_refl _
  | c + 1 => by
    rw [sTl]
    have := sTl_len M B c
    split
    · simp; omega
    · omega
def wLs (I : Nat → Nat → Int32) (l : List Int32) : Nat → Nat → Int32 := fun a k => if a = 106 ∧ k < l.length then l.getD k 0 else I a k
theorem wLs_o (I : Nat → Nat → Int32) (l : List Int32) : ∀ a k, a ≠ 106 → wLs I l a k = I a k := fun a k h => by simp [wLs, h]
theorem wLs_0 (I : Nat → Nat → Int32) : wLs I [] = I := by funext a k; simp [wLs]
theorem wLs_s (I : Nat → Nat → Int32) (l : List Int32) (v : Int32) : xu (wLs I l) 106 l.length v = wLs I (l ++ [v]) := by
  funext a k
  simp only [xu, wLs, List.length_append, List.length_singleton]
  by_cases ha : a = 106
  · subst ha
    by_cases hk : k = l.length
    · subst hk; simp
    · by_cases hl : k < l.length
      · rw [if_neg (fun z => hk z.2), if_pos ⟨rfl, hl⟩, if_pos ⟨rfl, by omega⟩]
        simp [List.getD_eq_getElem?_getD, List.getElem?_append_left hl]
      · rw [if_neg (fun z => hk z.2), if_neg (fun z => hl z.2), if_neg (fun z => by omega)]
  · simp [ha]
/-- what a told load would have been borne by, by candidates -/
def sCd (I : Nat → Nat → Int32) (t n : Nat) : Nat → Int32 := fun c => sBr (sPa (vB I 56) (nI c) (I t 9)) (Lv I t) n
/-- the end: the row of candidates and the trial are left anyhow -/
def Qv (I : Nat → Nat → Int32) (J : Nat → Nat → Int64) (P : Nat → Nat → Nat) (t : Nat) (r : Option Value) : Option Value → xS → Prop := fun r1 S1 => r1 = r ∧ ∃ l J' W' P', S1 = (SH, wB (wLs I l) 80 W', J', P') ∧ Jok J J' t ∧ Pb P P'
theorem Qv.mk {I W : Nat → Nat → Int32} {l : List Int32} {J : Nat → Nat → Int64} {P P' : Nat → Nat → Nat} {t : Nat} {r : Option Value} {J' : Nat → Nat → Int64} (h : Jok J J' t) (h2 : Pb P P') : Qv I J P t r r (SH, wB (wLs I l) 80 W, J', P') := ⟨rfl, l, J', W, P', rfl, h, h2⟩
theorem Qv.use {E : xCl} {ex : Bool} {d : Nat} {y : MethodName} {vs : List Value} {S : xS} {I : Nat → Nat → Int32} {J : Nat → Nat → Int64} {P : Nat → Nat → Nat} {t : Nat} {r : Option Value} (h : ∃ r1 S1, xEx E ex d y vs S r1 S1 ∧ Qv I J P t r r1 S1) : ∃ l J' W' P', xEx E ex d y vs S r (SH, wB (wLs I l) 80 W', J', P') ∧ Jok J J' t ∧ Pb P P' := by
  obtain ⟨r1, S1, h1, h2, l, J', W', P', h3, h4, h5⟩ := h
  subst h2; subst h3
  exact ⟨l, J', W', P', h1, h4, h5⟩
theorem wLs_at (I W : Nat → Nat → Int32) (l : List Int32) : ∀ k, k < l.length → wB (wLs I l) 80 W 106 k = l.getD k 0 := fun k hk => by rw [wB_o _ _ _ (br_x _ hb80 106 (by decide))]; simp [wLs, hk]
theorem sFq_eq {g h : Nat → Int32} {q : Nat} (e : ∀ k, k < q → g k = h k) (x : Int32) {i : Nat} (hi : i < q) : ∀ j, j ≤ i → sFq g x i j = sFq h x i j
  | 0, _ => rfl
  | j + 1, hj => by rw [sFq, sFq, e i hi, e j (by omega), sFq_eq e x hi j (by omega)]
theorem sWy_eq {g h : Nat → Int32} {q : Nat} (e : ∀ k, k < q → g k = h k) (x : Int32) : ∀ i, i ≤ q → sWy g x i = sWy h x i
  | 0, _ => rfl
  | i + 1, hi => by rw [sWy, sWy, sFq_eq e x (by omega) i (Nat.le_refl _), sWy_eq e x i (by omega)]
theorem sMt_eq {g h : Nat → Int32} {q : Nat} (e : ∀ k, k < q → g k = h k) : ∀ x, sMt g q x = sMt h q x
  | 0 => rfl
  | x + 1 => by rw [sMt, sMt, sWy_eq e _ q (Nat.le_refl _), sMt_eq e x]
set_option maxHeartbeats 4000000 in
theorem l_tells {E : xCl} {ex : Bool} {I : Nat → Nat → Int32} {J : Nat → Nat → Int64} {P : Nat → Nat → Nat} (hP : Pok P) {t : Nat} (ht : t ∈ TL) (hx5 : P 0 5 = t + 1) (hft : P 44 0 = t + 1) (hbt : P 56 0 = t + 1) {nF : Nat} (hvF : Vok (vB I 44) nF) {n : Nat} (hv : Vok (vB I 56) n) (hL : Lok I t) {m : Nat} (hm : m ≤ 8) (hc : I t 7 = nI m) (hg : ∀ k, vp_in (I (t + 4) k) 6) {s : Nat} (hs : s ≤ 24) (h4 : I 93 4 = nI s) {q9 : Nat} (hq9 : q9 ≤ 10) (h9 : I t 9 = nI q9) (u w : Int32) (d : Nat) : ∀ c j J1 W1 P1, j + c = q9 + 1 → Jok J J1 t → Pb P P1 → xR (xEx E ex (d + 9)) ex none yX10_tells cX10_tells (some .int) 24 [some (.ref 0), some (.int u), some (.int w), some (.int (nI (sTl (fun c => sMk I (fun y => sBr ((sYr (sPa (vB I 44) (nI c) (I t 9)) (Lv I t) nF (fun o => I (t + o)) m) y) (Lv I t) nF) w s (lastY I w s)) (sCd I t n) j).length)), some (.int (nI j))] [] (SH, wB (wLs I (sTl (fun c => sMk I (fun y => sBr ((sYr (sPa (vB I 44) (nI c) (I t 9)) (Lv I t) nF (fun o => I (t + o)) m) y) (Lv I t) nF) w s (lastY I w s)) (sCd I t n) j)) 80 W1, J1, P1) (Qv I J P t (some (.int (if (sTl (fun c => sMk I (fun y => sBr ((sYr (sPa (vB I 44) (nI c) (I t 9)) (Lv I t) nF (fun o => I (t + o)) m) y) (Lv I t) nF) w s (lastY I w s)) (sCd I t n) (q9 + 1)) = [] then -2 else if u = 0 then (sMt (fun k => (sTl (fun c => sMk I (fun y => sBr ((sYr (sPa (vB I 44) (nI c) (I t 9)) (Lv I t) nF (fun o => I (t + o)) m) y) (Lv I t) nF) w s (lastY I w s)) (sCd I t n) (q9 + 1)).getD k 0) (sTl (fun c => sMk I (fun y => sBr ((sYr (sPa (vB I 44) (nI c) (I t 9)) (Lv I t) nF (fun o => I (t + o)) m) y) (Lv I t) nF) w s (lastY I w s)) (sCd I t n) (q9 + 1)).length 200).1 else (sMt (fun k => (sTl (fun c => sMk I (fun y => sBr ((sYr (sPa (vB I 44) (nI c) (I t 9)) (Lv I t) nF (fun o => I (t + o)) m) y) (Lv I t) nF) w s (lastY I w s)) (sCd I t n) (q9 + 1)).getD k 0) (sTl (fun c => sMk I (fun y => sBr ((sYr (sPa (vB I 44) (nI c) (I t 9)) (Lv I t) nF (fun o => I (t + o)) m) y) (Lv I t) nF) w s (lastY I w s)) (sCd I t n) (q9 + 1)).length 200).2)))) := by
  intro c
  induction c with
  | zero =>
    intro j J1 W1 P1 hj hJ hb1
    have hj : j = q9 + 1 := by omega
    subst hj
    have o1 := wLs_o I (sTl (fun c => sMk I (fun y => sBr ((sYr (sPa (vB I 44) (nI c) (I t 9)) (Lv I t) nF (fun o => I (t + o)) m) y) (Lv I t) nF) w s (lastY I w s)) (sCd I t n) (q9 + 1))
    refine r_iload dX10_tells_24 rfl ?_
    refine r_aload_n dX10_tells_26 rfl ?_
    refine r_getR dX10_tells_27 flX10_29 sh_0 (by decide) rfl (hb1.at hx5 (by decide)) ?_
    refine r_getIv dX10_tells_30 flX10_341 (tl_s _ ht) (by decide) rfl ((wB_t0 _ hb80 _ ht _).trans ((tl_106 o1 ht 0 9 (by omega)).trans h9)) ?_
    refine r_ic_gt 105 dX10_tells_33 (by decide) (fun c33 => ?_) (fun c33 => ?_)
    · refine r_iload_n dX10_tells_105 rfl ?_
      refine r_if_ne 114 dX10_tells_106 (by decide) (fun c106 => ?_) (fun c106 => ?_)
      · refine r_aload_n dX10_tells_114 rfl ?_
        refine r_iload_n dX10_tells_115 rfl ?_
        refine r_iload_n dX10_tells_116 rfl ?_
        refine r_cV2i dX10_tells_117 vlX10_355 sh_0 (Nat.le_of_ble_eq_true rfl) (k_mostTelling (hb1.ok hP) (by have := sTl_len (fun c => sMk I (fun y => sBr ((sYr (sPa (vB I 44) (nI c) (I t 9)) (Lv I t) nF (fun o => I (t + o)) m) y) (Lv I t) nF) w s (lastY I w s)) (sCd I t n) (q9 + 1); omega) u (d + 6)) ?_
        exact r_iretq dX10_tells_120 rfl rfl (by rw [if_neg (fun z => c106 (by rw [z]; rfl)), ← sMt_eq (wLs_at I W1 (sTl (fun c => sMk I (fun y => sBr ((sYr (sPa (vB I 44) (nI c) (I t 9)) (Lv I t) nF (fun o => I (t + o)) m) y) (Lv I t) nF) w s (lastY I w s)) (sCd I t n) (q9 + 1))) 200]; exact Qv.mk hJ hb1)
      · refine r_bipush (v := (-2)) dX10_tells_109 (by decide) ?_
        refine r_goto 120 dX10_tells_111 (by decide) ?_
        exact r_iretq dX10_tells_120 rfl rfl (by rw [if_pos (List.eq_nil_of_length_eq_zero (by have := congrArg Int32.toNatClampNeg c106; rw [nI_clamp (by have := sTl_len (fun c => sMk I (fun y => sBr ((sYr (sPa (vB I 44) (nI c) (I t 9)) (Lv I t) nF (fun o => I (t + o)) m) y) (Lv I t) nF) w s (lastY I w s)) (sCd I t n) (q9 + 1); omega)] at this; exact this))]; exact Qv.mk hJ hb1)
    · exact absurd (nI_lt (by omega) (by omega)) c33
  | succ c ih =>
    intro j J1 W1 P1 hj hJ hb1
    have o1 := wLs_o I (sTl (fun c => sMk I (fun y => sBr ((sYr (sPa (vB I 44) (nI c) (I t 9)) (Lv I t) nF (fun o => I (t + o)) m) y) (Lv I t) nF) w s (lastY I w s)) (sCd I t n) j)
    refine r_iload dX10_tells_24 rfl ?_
    refine r_aload_n dX10_tells_26 rfl ?_
    refine r_getR dX10_tells_27 flX10_29 sh_0 (by decide) rfl (hb1.at hx5 (by decide)) ?_
    refine r_getIv dX10_tells_30 flX10_341 (tl_s _ ht) (by decide) rfl ((wB_t0 _ hb80 _ ht _).trans ((tl_106 o1 ht 0 9 (by omega)).trans h9)) ?_
    refine r_ic_gt 105 dX10_tells_33 (by decide) (fun c33 => ?_) (fun c33 => ?_)
    · exact absurd c33 (nI_nlt (by omega) (by omega))
    · refine r_iload dX10_tells_36 rfl ?_
      refine r_aload_n dX10_tells_38 rfl ?_
      refine r_getR dX10_tells_39 flX10_83 sh_0 (by decide) rfl (pf_0_18 (hb1.ok hP)) ?_
      refine r_alen dX10_tells_42 sh_106 ?_
      refine r_ic_ge 105 dX10_tells_43 (by decide) (fun c43 => ?_) (fun c43 => ?_)
      · exact absurd c43 (lt11 (by omega))
      · refine r_aload_n dX10_tells_46 rfl ?_
        refine r_iload dX10_tells_47 rfl ?_
        refine r_iload_n dX10_tells_49 rfl ?_
        by_cases ha : (fun c => sMk I (fun y => sBr ((sYr (sPa (vB I 44) (nI c) (I t 9)) (Lv I t) nF (fun o => I (t + o)) m) y) (Lv I t) nF) w s (lastY I w s)) j
        · obtain ⟨J50, W50, hx50, hj50⟩ := k_makes (E := E) (ex := ex) (I := wLs I (sTl (fun c => sMk I (fun y => sBr ((sYr (sPa (vB I 44) (nI c) (I t 9)) (Lv I t) nF (fun o => I (t + o)) m) y) (Lv I t) nF) w s (lastY I w s)) (sCd I t n) j)) (W := W1) (J := J1) (hb1.ok hP) ht (hb1.at hx5 (by decide)) (hb1.at hft (by decide)) (by rw [vB_106 o1 hb44]; exact hvF) (Lok_of (tl_106 o1 ht) hL) hm ((tl_106 o1 ht 0 7 (by omega)).trans hc) (fun k => by rw [tl_106 o1 ht 4 k (by omega)]; exact hg k) hs ((o1 _ _ (by decide)).trans h4) (nI j) w 1 (fun _ => rfl) (fun q => absurd (by rw [mk_106 o1 ht]; exact ha) q) d
          refine r_cV2i dX10_tells_50 vlX10_342 sh_0 (Nat.le_of_ble_eq_true rfl) hx50 ?_
          refine r_if_eq 99 dX10_tells_53 (by decide) (fun c53 => ?_) (fun c53 => ?_)
          · exact absurd c53 (by decide)
          · have hb2 := hb1.xt (t + 1)
            refine r_aload_n dX10_tells_56 rfl ?_
            refine r_getR dX10_tells_57 flX10_48 sh_0 (by decide) rfl (pf_0_10 (hb2.ok hP)) ?_
            refine r_aload_n dX10_tells_60 rfl ?_
            refine r_getR dX10_tells_61 flX10_42 sh_0 (by decide) rfl (pf_0_7 (hb2.ok hP)) ?_
            refine r_cV1v dX10_tells_64 vlX10_119 (br_s _ hb80) (Nat.le_of_ble_eq_true rfl) (k_become (E := E) (ex := ex) (I := wLs I (sTl (fun c => sMk I (fun y => sBr ((sYr (sPa (vB I 44) (nI c) (I t 9)) (Lv I t) nF (fun o => I (t + o)) m) y) (Lv I t) nF) w s (lastY I w s)) (sCd I t n) j)) (V := W50) (J := J50) (P := xu P1 80 0 (t + 1)) ((hb1.xt _).ok hP) hb80 hb56 (by decide) ht ((hb1.xt _).at hbt (by decide)) (d + 8)) ?_
            have hb2 := hb2.xt (t + 1)
            refine r_aload_n dX10_tells_67 rfl ?_
            refine r_getR dX10_tells_68 flX10_48 sh_0 (by decide) rfl (pf_0_10 (hb2.ok hP)) ?_
            refine r_iload dX10_tells_71 rfl ?_
            refine r_aload_n dX10_tells_73 rfl ?_
            refine r_getR dX10_tells_74 flX10_29 sh_0 (by decide) rfl (hb2.at hx5 (by decide)) ?_
            refine r_getIv dX10_tells_77 flX10_341 (tl_s _ ht) (by decide) rfl ((wB_t0 _ hb80 _ ht _).trans ((tl_106 o1 ht 0 9 (by omega)).trans h9)) ?_
            refine r_cV2v dX10_tells_80 vlX10_346 (br_s _ hb80) (Nat.le_of_ble_eq_true rfl) (k_paintAlone hb80 (nI j) _ (d + 8)) ?_
            refine r_aload_n dX10_tells_83 rfl ?_
            refine r_getR dX10_tells_84 flX10_83 sh_0 (by decide) rfl (pf_0_18 (hb2.ok hP)) ?_
            refine r_iload_n dX10_tells_87 rfl ?_
            refine r_aload_n dX10_tells_88 rfl ?_
            refine r_getR dX10_tells_89 flX10_48 sh_0 (by decide) rfl (pf_0_10 (hb2.ok hP)) ?_
            obtain ⟨J92, hx92, hj92⟩ := k_bridgeBears (E := E) (ex := ex) (I := wLs I (sTl (fun c => sMk I (fun y => sBr ((sYr (sPa (vB I 44) (nI c) (I t 9)) (Lv I t) nF (fun o => I (t + o)) m) y) (Lv I t) nF) w s (lastY I w s)) (sCd I t n) j)) (V := sPa (vB (wLs I (sTl (fun c => sMk I (fun y => sBr ((sYr (sPa (vB I 44) (nI c) (I t 9)) (Lv I t) nF (fun o => I (t + o)) m) y) (Lv I t) nF) w s (lastY I w s)) (sCd I t n) j)) 56) (nI j) (nI q9)) (J := J50) (hb2.ok hP) hb80 ht (xu_s _ _ _ _) (show Vok (xu _ _ _ _) n from Vok.xu (by rw [vB_106 o1 hb56]; exact hv) (by decide) (by decide) (by decide)) (Lok_of (tl_106 o1 ht) hL) (d + 3)
            have e92 : sBr (sPa (vB (wLs I (sTl (fun c => sMk I (fun y => sBr ((sYr (sPa (vB I 44) (nI c) (I t 9)) (Lv I t) nF (fun o => I (t + o)) m) y) (Lv I t) nF) w s (lastY I w s)) (sCd I t n) j)) 56) (nI j) (nI q9)) (Lv (wLs I (sTl (fun c => sMk I (fun y => sBr ((sYr (sPa (vB I 44) (nI c) (I t 9)) (Lv I t) nF (fun o => I (t + o)) m) y) (Lv I t) nF) w s (lastY I w s)) (sCd I t n) j)) t) n = sCd I t n j := by rw [vB_106 o1 hb56, Lv_of (tl_106 o1 ht), ← h9]; rfl -- ← vB_106 (wLs_o I (sTl (fun c => sMk I (fun y => sBr ((sYr (sPa (vB I 44) (nI c) (I t 9)) (Lv I t) nF (fun o => I (t + o)) m) y) (Lv I t) nF) w s (lastY I w s)) (sCd I t n) j)) hb56, ← Lv_of (tl_106 (wLs_o I (sTl (fun c => sMk I (fun y => sBr ((sYr (sPa (vB I 44) (nI c) (I t 9)) (Lv I t) nF (fun o => I (t + o)) m) y) (Lv I t) nF) w s (lastY I w s)) (sCd I t n) j)) ht)]
            refine r_cV0i dX10_tells_92 vlX10_239 (br_s _ hb80) (Nat.le_of_ble_eq_true rfl) hx92 ?_
            refine r_iasv dX10_tells_95 sh_106 (in11 (by have := sTl_len (fun c => sMk I (fun y => sBr ((sYr (sPa (vB I 44) (nI c) (I t 9)) (Lv I t) nF (fun o => I (t + o)) m) y) (Lv I t) nF) w s (lastY I w s)) (sCd I t n) j; omega)) (show _ = wB (wLs I (sTl (fun c => sMk I (fun y => sBr ((sYr (sPa (vB I 44) (nI c) (I t 9)) (Lv I t) nF (fun o => I (t + o)) m) y) (Lv I t) nF) w s (lastY I w s)) (sCd I t n) (j + 1))) 80 _ from by rw [wB_xo _ _ (br_x _ hb80 106 (by decide)), nI_clamp (by have := sTl_len (fun c => sMk I (fun y => sBr ((sYr (sPa (vB I 44) (nI c) (I t 9)) (Lv I t) nF (fun o => I (t + o)) m) y) (Lv I t) nF) w s (lastY I w s)) (sCd I t n) j; omega), e92, sTl_t ha, ← wLs_s]) ?_
            refine r_iinc3 (v := 1) dX10_tells_96 (by decide) rfl ?_
            refine r_iinc4 (v := 1) dX10_tells_99 (by decide) rfl ?_
            refine r_goto 24 dX10_tells_102 (by decide) ?_
            rw [nI_1, nI_1]; have z := ih (j + 1) _ (sPa (vB (wLs I (sTl (fun c => sMk I (fun y => sBr ((sYr (sPa (vB I 44) (nI c) (I t 9)) (Lv I t) nF (fun o => I (t + o)) m) y) (Lv I t) nF) w s (lastY I w s)) (sCd I t n) j)) 56) (nI j) (nI q9)) _ (by omega) ((hJ.tr hj50).tr hj92) hb2; rw [sTl_t ha, List.length_append] at z; rw [sTl_t ha]; exact z
        · obtain ⟨J50, W50, hx50, hj50⟩ := k_makes (E := E) (ex := ex) (I := wLs I (sTl (fun c => sMk I (fun y => sBr ((sYr (sPa (vB I 44) (nI c) (I t 9)) (Lv I t) nF (fun o => I (t + o)) m) y) (Lv I t) nF) w s (lastY I w s)) (sCd I t n) j)) (W := W1) (J := J1) (hb1.ok hP) ht (hb1.at hx5 (by decide)) (hb1.at hft (by decide)) (by rw [vB_106 o1 hb44]; exact hvF) (Lok_of (tl_106 o1 ht) hL) hm ((tl_106 o1 ht 0 7 (by omega)).trans hc) (fun k => by rw [tl_106 o1 ht 4 k (by omega)]; exact hg k) hs ((o1 _ _ (by decide)).trans h4) (nI j) w 0 (fun q => absurd (by rw [mk_106 o1 ht] at q; exact q) ha) (fun _ => rfl) d
          refine r_cV2i dX10_tells_50 vlX10_342 sh_0 (Nat.le_of_ble_eq_true rfl) hx50 ?_
          refine r_if_eq 99 dX10_tells_53 (by decide) (fun c53 => ?_) (fun c53 => ?_)
          · refine r_iinc4 (v := 1) dX10_tells_99 (by decide) rfl ?_
            refine r_goto 24 dX10_tells_102 (by decide) ?_
            rw [nI_1]; have z := ih (j + 1) _ W50 _ (by omega) (hJ.tr hj50) (hb1.xt (t + 1)); rw [sTl_f ha] at z; exact z
          · exact absurd c53 (by decide)
set_option maxHeartbeats 1000000 in
theorem k_tells_n {E : xCl} {ex : Bool} {I W : Nat → Nat → Int32} {J : Nat → Nat → Int64} {P : Nat → Nat → Nat} {u : Int32} (h : ¬ (¬ u < 0 ∧ u ≤ 1)) (d : Nat) : xEx E ex (d + 1) yX10_tells [.ref 0, .int u] (SH, wB I 80 W, J, P) (some (.int (-1))) (SH, wB I 80 W, J, P) := by
  refine x_enter cqX10_tells [some (.ref 0), some (.int u), none, none, none] rfl (by simp [lg_sl, Value.category]) ?_
  refine r_iload_n dX10_tells_0 rfl ?_
  refine r_if_lt 9 dX10_tells_1 (by decide) (fun c1 => ?_) (fun c1 => ?_)
  · refine r_iconst (v := (-1)) dX10_tells_9 (by decide) ?_
    exact r_iret dX10_tells_10 rfl rfl rfl rfl
  · refine r_iload_n dX10_tells_4 rfl ?_
    refine r_iconst (v := 1) dX10_tells_5 (by decide) ?_
    refine r_ic_le 11 dX10_tells_6 (by decide) (fun c6 => ?_) (fun c6 => ?_)
    · exact absurd ⟨c1, c6⟩ h
    · refine r_iconst (v := (-1)) dX10_tells_9 (by decide) ?_
      exact r_iret dX10_tells_10 rfl rfl rfl rfl
set_option maxHeartbeats 2000000 in
theorem k_tells {E : xCl} {ex : Bool} {I W : Nat → Nat → Int32} {J : Nat → Nat → Int64} {P : Nat → Nat → Nat} (hP : Pok P) {t : Nat} (ht : t ∈ TL) (hx5 : P 0 5 = t + 1) (hft : P 44 0 = t + 1) (hbt : P 56 0 = t + 1) {nF : Nat} (hvF : Vok (vB I 44) nF) {n : Nat} (hv : Vok (vB I 56) n) (hL : Lok I t) {m : Nat} (hm : m ≤ 8) (hc : I t 7 = nI m) (hg : ∀ k, vp_in (I (t + 4) k) 6) {s : Nat} (hs : s ≤ 24) (h4 : I 93 4 = nI s) {q9 : Nat} (hq9 : q9 ≤ 10) (h9 : I t 9 = nI q9) {q : Nat} (hq : q ≤ 24) (hk : sKs I = nI q) {u : Int32} (h : ¬ u < 0 ∧ u ≤ 1) (d : Nat) : ∃ l J' W' P', xEx E ex (d + 10) yX10_tells [.ref 0, .int u] (SH, wB I 80 W, J, P) (some (.int (if (sTl (fun c => sMk I (fun y => sBr ((sYr (sPa (vB I 44) (nI c) (I t 9)) (Lv I t) nF (fun o => I (t + o)) m) y) (Lv I t) nF) (sKb I q 0 0) s (lastY I (sKb I q 0 0) s)) (sCd I t n) (q9 + 1)) = [] then -2 else if u = 0 then (sMt (fun k => (sTl (fun c => sMk I (fun y => sBr ((sYr (sPa (vB I 44) (nI c) (I t 9)) (Lv I t) nF (fun o => I (t + o)) m) y) (Lv I t) nF) (sKb I q 0 0) s (lastY I (sKb I q 0 0) s)) (sCd I t n) (q9 + 1)).getD k 0) (sTl (fun c => sMk I (fun y => sBr ((sYr (sPa (vB I 44) (nI c) (I t 9)) (Lv I t) nF (fun o => I (t + o)) m) y) (Lv I t) nF) (sKb I q 0 0) s (lastY I (sKb I q 0 0) s)) (sCd I t n) (q9 + 1)).length 200).1 else (sMt (fun k => (sTl (fun c => sMk I (fun y => sBr ((sYr (sPa (vB I 44) (nI c) (I t 9)) (Lv I t) nF (fun o => I (t + o)) m) y) (Lv I t) nF) (sKb I q 0 0) s (lastY I (sKb I q 0 0) s)) (sCd I t n) (q9 + 1)).getD k 0) (sTl (fun c => sMk I (fun y => sBr ((sYr (sPa (vB I 44) (nI c) (I t 9)) (Lv I t) nF (fun o => I (t + o)) m) y) (Lv I t) nF) (sKb I q 0 0) s (lastY I (sKb I q 0 0) s)) (sCd I t n) (q9 + 1)).length 200).2))) (SH, wB (wLs I l) 80 W', J', P') ∧ Jok J J' t ∧ Pb P P' := by
  refine Qv.use (x_enterq (d := d + 9) cqX10_tells [some (.ref 0), some (.int u), none, none, none] rfl (by simp [lg_sl, Value.category]) ?_)
  refine r_iload_n dX10_tells_0 rfl ?_
  refine r_if_lt 9 dX10_tells_1 (by decide) (fun c1 => ?_) (fun c1 => ?_)
  · exact absurd c1 h.1
  · refine r_iload_n dX10_tells_4 rfl ?_
    refine r_iconst (v := 1) dX10_tells_5 (by decide) ?_
    refine r_ic_le 11 dX10_tells_6 (by decide) (fun c6 => ?_) (fun c6 => ?_)
    · refine r_aload_n dX10_tells_11 rfl ?_
      refine r_getR dX10_tells_12 flX10_58 sh_0 (by decide) rfl (pf_0_14 hP) ?_
      refine r_cV0i dX10_tells_15 vlX10_338 sh_93 (Nat.le_of_ble_eq_true rfl) (by have z := k_knownBits (E := E) (ex := ex) (I := wB I 80 W) (J := J) hP hq ((by unfold sKs; rw [o80 (by decide), o80 (by decide)] : sKs (wB I 80 W) = sKs I).trans hk) (d + 7); rw [sKb_eq (fun k => o80 (by decide) k) (fun k => o80 (by decide) k)] at z; exact z) ?_
      refine r_istore_n2 dX10_tells_18 rfl ?_
      refine r_iconst (v := 0) dX10_tells_19 (by decide) ?_
      refine r_istore_n3 dX10_tells_20 rfl ?_
      refine r_iconst (v := 0) dX10_tells_21 (by decide) ?_
      refine r_istore4 dX10_tells_22 rfl ?_
      have z := l_tells (E := E) (ex := ex) (J := J) hP ht hx5 hft hbt hvF hv hL hm hc hg hs h4 hq9 h9 u (sKb I q 0 0) d (q9 + 1) 0 J W P (by omega) (Jok.rf J t) (Pb.rf P); rw [show sTl _ (sCd I t n) 0 = [] from rfl, wLs_0] at z; exact z
    · exact absurd h.2 c6
