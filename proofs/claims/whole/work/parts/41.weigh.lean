/-! weigh -/
theorem Lv_of {I I' : Nat → Nat → Int32} {t : Nat} (h : ∀ f k, f < 13 → I' (t + f) k = I (t + f) k) : Lv I' t = Lv I t := by
  funext k N
  unfold Lv
  rw [h 9 k (by decide), h 10 k (by decide), show I' (t + 8) = I (t + 8) from funext (fun q => h 8 q (by decide))]
theorem Lok_of {I I' : Nat → Nat → Int32} {t : Nat} (h : ∀ f k, f < 13 → I' (t + f) k = I (t + f) k) (hL : Lok I t) : Lok I' t := by
  have key : ∀ k, LwOk I t k → LwOk I' t k := fun k hk => by
    unfold LwOk at hk ⊢
    rw [h 9 k (by decide), h 10 k (by decide)]
    exact hk
  exact ⟨key 0 hL.1, key 1 hL.2.1, key 2 hL.2.2⟩
theorem tl_xu {I : Nat → Nat → Int32} {t a k : Nat} {v : Int32} (ht : t ∈ TL) (ha : a ∈ OTH) : ∀ f q, f < 13 → xu I a k v (t + f) q = I (t + f) q := fun f q hf => xu_f _ _ (Ne.symm (tl_x t ht a ha f hf))
def wRw (I : Nat → Nat → Int32) (g h : Nat → Int32) (j : Nat) : Nat → Nat → Int32 := fun a k => if a = 99 ∧ k < j then g k else if a = 100 ∧ k < j then h k else I a k
theorem wRw_0 (I : Nat → Nat → Int32) (g h : Nat → Int32) : wRw I g h 0 = I := by funext a k; simp [wRw]
theorem wRw_s (I : Nat → Nat → Int32) (g h : Nat → Int32) (j : Nat) : xu (xu (wRw I g h j) 99 j (g j)) 100 j (h j) = wRw I g h (j + 1) := by
  funext a k
  simp only [xu, wRw]
  by_cases h1 : a = 100
  · subst h1
    by_cases hk : k = j
    · subst hk; simp
    · have e1 : (k < j + 1) = (k < j) := by simp; omega
      simp [hk, e1]
  · by_cases h2 : a = 99
    · subst h2
      by_cases hk : k = j
      · subst hk; simp
      · have e1 : (k < j + 1) = (k < j) := by simp; omega
        simp [hk, e1]
    · simp [h1, h2]
theorem wRw_t {I : Nat → Nat → Int32} {g h : Nat → Int32} {j t : Nat} (ht : t ∈ TL) : ∀ f q, f < 13 → wRw I g h j (t + f) q = I (t + f) q := fun f q hf => by
  have h1 := tl_x t ht 99 (by decide) f hf
  have h2 := tl_x t ht 100 (by decide) f hf
  simp [wRw, Ne.symm h1, Ne.symm h2]
/-- what each strand bears alone, and in its twist -/
def gS (V : Nat → Nat → Int32) (Lw : Nat → (Nat → Int64) → Int64) : Nat → Int32 := fun j => sAl V Lw (nI j) 0
def gT (V : Nat → Nat → Int32) (Lw : Nat → (Nat → Int64) → Int64) : Nat → Int32 := fun j => if sTwo V (nI j) = 1 then sAl V Lw (nI j) 1 else 0
set_option maxHeartbeats 2000000 in
theorem t_weigh {E : xCl} {ex : Bool} {I V : Nat → Nat → Int32} {J0 : Nat → Nat → Int64} {P : Nat → Nat → Nat} (hP : Pok P) {b : Nat} (hb : b ∈ BR) {t : Nat} (ht : t ∈ TL) (hbt : P b 0 = t + 1) {n : Nat} (hv : Vok V n) (hL : Lok I t) {j : Nat} (hj : j < n) {Q : Option Value → xS → Prop} {J1 : Nat → Nat → Int64} (d : Nat) (k : ∀ J2, Jok J1 J2 t → xR (xEx E ex (d + 5)) ex none yX9_weigh cX9_weigh none 2 [some (.ref 98), some (.ref b), some (.int (nI (j + 1)))] [] (SH, wB (xu (xu I 99 j (gS V (Lv I t) j)) 100 j (gT V (Lv I t) j)) b V, J2, P) Q) : xR (xEx E ex (d + 5)) ex none yX9_weigh cX9_weigh none 2 [some (.ref 98), some (.ref b), some (.int (nI j))] [] (SH, wB I b V, J1, P) Q := by
  refine r_iload_n dX9_weigh_2 rfl ?_
  refine r_aload_n dX9_weigh_3 rfl ?_
  refine r_getIv dX9_weigh_4 flX9_18 (br_s _ hb) (by decide) rfl (wB_i _ _ _ (by decide)) ?_
  refine r_ic_ge 59 dX9_weigh_7 (by decide) (fun c7 => ?_) (fun c7 => ?_)
  · exact absurd c7 (hv.g hj)
  · refine r_iload_n dX9_weigh_10 rfl ?_
    refine r_bipush (v := 12) dX9_weigh_11 (by decide) ?_
    refine r_ic_ge 59 dX9_weigh_13 (by decide) (fun c13 => ?_) (fun c13 => ?_)
    · exact absurd c13 (lt12 (by have := hv.1; omega))
    · refine r_aload_n dX9_weigh_16 rfl ?_
      refine r_getR dX9_weigh_17 flX9_9 sh_98 (by decide) rfl (pf_98_0 hP) ?_
      refine r_iload_n dX9_weigh_20 rfl ?_
      refine r_aload_n dX9_weigh_21 rfl ?_
      refine r_iload_n dX9_weigh_22 rfl ?_
      refine r_iconst (v := 0) dX9_weigh_23 (by decide) ?_
      obtain ⟨J24, hx24, hj24⟩ := k_alone (E := E) (ex := ex) (J := J1) hP hb ht hbt hv hL (nI j) 0 d
      refine r_cV2i dX9_weigh_24 vlX9_24 (br_s _ hb) (Nat.le_of_ble_eq_true rfl) hx24 ?_
      refine r_iasv dX9_weigh_27 sh_99 (hv.i hj) ((congrArg (fun z => xu _ _ z _) (hv.c hj)).trans (wB_xo _ _ (br_x _ hb 99 (by decide)) _ _)) ?_
      refine r_aload_n dX9_weigh_28 rfl ?_
      refine r_getR dX9_weigh_29 flX9_15 sh_98 (by decide) rfl (pf_98_1 hP) ?_
      refine r_iload_n dX9_weigh_32 rfl ?_
      refine r_aload_n dX9_weigh_33 rfl ?_
      refine r_iload_n dX9_weigh_34 rfl ?_
      refine r_cV1i dX9_weigh_35 vlX9_28 (br_s _ hb) (Nat.le_of_ble_eq_true rfl) (k_twoOf hP hb (hv.i hj) (d + 2)) ?_
      refine r_iconst (v := 1) dX9_weigh_38 (by decide) ?_
      refine r_ic_ne 51 dX9_weigh_39 (by decide) (fun c39 => ?_) (fun c39 => ?_)
      · refine r_iconst (v := 0) dX9_weigh_51 (by decide) ?_
        refine r_iasv dX9_weigh_52 sh_100 (hv.i hj) ((congrArg (fun z => xu _ _ z _) (hv.c hj)).trans (wB_xo _ _ (br_x _ hb 100 (by decide)) _ _)) ?_
        refine r_iinc2 (v := 1) dX9_weigh_53 (by decide) rfl ?_
        refine r_goto 2 dX9_weigh_56 (by decide) ?_
        rw [nI_1]; rw [gT, if_neg c39] at k; exact k _ hj24
      · refine r_aload_n dX9_weigh_42 rfl ?_
        refine r_iload_n dX9_weigh_43 rfl ?_
        refine r_iconst (v := 1) dX9_weigh_44 (by decide) ?_
        obtain ⟨J45, hx45, hj45⟩ := k_alone (E := E) (ex := ex) (I := xu I 99 j (gS V (Lv I t) j)) (J := J24) hP hb ht hbt hv (Lok_of (tl_xu ht (by decide)) hL) (nI j) 1 d
        rw [Lv_of (tl_xu ht (by decide))] at hx45
        refine r_cV2i dX9_weigh_45 vlX9_24 (br_s _ hb) (Nat.le_of_ble_eq_true rfl) hx45 ?_
        refine r_goto 52 dX9_weigh_48 (by decide) ?_
        refine r_iasv dX9_weigh_52 sh_100 (hv.i hj) ((congrArg (fun z => xu _ _ z _) (hv.c hj)).trans (wB_xo _ _ (br_x _ hb 100 (by decide)) _ _)) ?_
        refine r_iinc2 (v := 1) dX9_weigh_53 (by decide) rfl ?_
        refine r_goto 2 dX9_weigh_56 (by decide) ?_
        rw [nI_1]; rw [gT, if_pos c39] at k; exact k _ (hj24.tr hj45)
theorem l_weigh {E : xCl} {ex : Bool} {I V : Nat → Nat → Int32} {J : Nat → Nat → Int64} {P : Nat → Nat → Nat} (hP : Pok P) {b : Nat} (hb : b ∈ BR) {t : Nat} (ht : t ∈ TL) (hbt : P b 0 = t + 1) {n : Nat} (hv : Vok V n) (hL : Lok I t) (d : Nat) : ∀ j, j ≤ n → ∀ J1, Jok J J1 t → xR (xEx E ex (d + 5)) ex none yX9_weigh cX9_weigh none 2 [some (.ref 98), some (.ref b), some (.int (nI j))] [] (SH, wB (wRw I (gS V (Lv I t)) (gT V (Lv I t)) j) b V, J1, P) (Qj (wB (wRw I (gS V (Lv I t)) (gT V (Lv I t)) n) b V) J P t none) := by
  refine r_for (fun j => ∀ J1, Jok J J1 t → xR (xEx E ex (d + 5)) ex none yX9_weigh cX9_weigh none 2 [some (.ref 98), some (.ref b), some (.int (nI j))] [] (SH, wB (wRw I (gS V (Lv I t)) (gT V (Lv I t)) j) b V, J1, P) (Qj (wB (wRw I (gS V (Lv I t)) (gT V (Lv I t)) n) b V) J P t none)) _ ?_ ?_
  · intro j hj ih J1 hJ
    refine t_weigh (J0 := J) hP hb ht hbt hv (Lok_of (wRw_t ht) hL) hj d (fun J2 h2 => ?_)
    rw [Lv_of (wRw_t ht), wRw_s]
    exact ih J2 (hJ.tr h2)
  · intro J1 hJ
    refine r_iload_n dX9_weigh_2 rfl ?_
    refine r_aload_n dX9_weigh_3 rfl ?_
    refine r_getIv dX9_weigh_4 flX9_18 (br_s _ hb) (by decide) rfl (wB_i _ _ _ (by decide)) ?_
    refine r_ic_ge 59 dX9_weigh_7 (by decide) (fun c7 => ?_) (fun c7 => ?_)
    · exact r_vretq dX9_weigh_59 rfl (Qj.mk hJ)
    · exact absurd hv.l c7
set_option maxHeartbeats 1000000 in
theorem k_weigh {E : xCl} {ex : Bool} {I V : Nat → Nat → Int32} {J : Nat → Nat → Int64} {P : Nat → Nat → Nat} (hP : Pok P) {b : Nat} (hb : b ∈ BR) {t : Nat} (ht : t ∈ TL) (hbt : P b 0 = t + 1) {n : Nat} (hv : Vok V n) (hL : Lok I t) (d : Nat) : ∃ J', xEx E ex (d + 6) yX9_weigh [.ref 98, .ref b] (SH, wB I b V, J, P) none (SH, wB (wRw I (gS V (Lv I t)) (gT V (Lv I t)) n) b V, J', P) ∧ Jok J J' t := by
  refine Qj.use (x_enterq (d := d + 5) cqX9_weigh [some (.ref 98), some (.ref b), none] rfl (by simp [lg_sl, Value.category]) ?_)
  refine r_iconst (v := 0) dX9_weigh_0 (by decide) ?_
  refine r_istore_n2 dX9_weigh_1 rfl ?_
  have := l_weigh (E := E) (ex := ex) (J := J) hP hb ht hbt hv hL d 0 (Nat.zero_le n) J (Jok.rf J t); rw [wRw_0] at this; exact this
def bC (x : Int32) : Int32 :=
  (fun (x5 : Int32) => x5 &&& 63) ((fun (x4 : Int32) => x4 + ((x4.toUInt32 >>> ((16 : Int32).toUInt32 &&& Int32.toUInt32 31)).toInt32)) ((fun (x3 : Int32) => x3 + ((x3.toUInt32 >>> ((8 : Int32).toUInt32 &&& Int32.toUInt32 31)).toInt32)) ((fun (x2 : Int32) => (x2 + ((x2.toUInt32 >>> ((4 : Int32).toUInt32 &&& Int32.toUInt32 31)).toInt32)) &&& 252645135) ((fun (x1 : Int32) => (x1 &&& 858993459) + (((x1.toUInt32 >>> ((2 : Int32).toUInt32 &&& Int32.toUInt32 31)).toInt32) &&& 858993459)) (x - (((x.toUInt32 >>> ((1 : Int32).toUInt32 &&& Int32.toUInt32 31)).toInt32) &&& 1431655765))))))
set_option maxHeartbeats 1000000 in
theorem k_bitCount {E : xCl} {ex : Bool} {I : Nat → Nat → Int32} {J : Nat → Nat → Int64} {P : Nat → Nat → Nat} (x : Int32) (d : Nat) : xEx E ex (d + 1) yJ6_bitCount_0f7a4 [.int x] (SH, I, J, P) (some (.int (bC x))) (SH, I, J, P) := by
  refine x_enter cqJ6_bitCount_0f7a4 [some (.int x)] rfl (by simp [lg_sl, Value.category]) ?_
  refine r_iload_n dJ6_bitCount_0f7a4_0 rfl ?_
  refine r_iload_n dJ6_bitCount_0f7a4_1 rfl ?_
  refine r_iconst (v := 1) dJ6_bitCount_0f7a4_2 (by decide) ?_
  refine r_iushr dJ6_bitCount_0f7a4_3 ?_
  refine r_ldc_w dJ6_bitCount_0f7a4_4 kcJ6_265 ?_
  refine r_iand dJ6_bitCount_0f7a4_7 ?_
  refine r_isub dJ6_bitCount_0f7a4_8 ?_
  refine r_istore_n0 dJ6_bitCount_0f7a4_9 ?_
  refine r_iload_n dJ6_bitCount_0f7a4_10 rfl ?_
  refine r_ldc_w dJ6_bitCount_0f7a4_11 kcJ6_266 ?_
  refine r_iand dJ6_bitCount_0f7a4_14 ?_
  refine r_iload_n dJ6_bitCount_0f7a4_15 rfl ?_
  refine r_iconst (v := 2) dJ6_bitCount_0f7a4_16 (by decide) ?_
  refine r_iushr dJ6_bitCount_0f7a4_17 ?_
  refine r_ldc_w dJ6_bitCount_0f7a4_18 kcJ6_266 ?_
  refine r_iand dJ6_bitCount_0f7a4_21 ?_
  refine r_iadd dJ6_bitCount_0f7a4_22 ?_
  refine r_istore_n0 dJ6_bitCount_0f7a4_23 ?_
  refine r_iload_n dJ6_bitCount_0f7a4_24 rfl ?_
  refine r_iload_n dJ6_bitCount_0f7a4_25 rfl ?_
  refine r_iconst (v := 4) dJ6_bitCount_0f7a4_26 (by decide) ?_
  refine r_iushr dJ6_bitCount_0f7a4_27 ?_
  refine r_iadd dJ6_bitCount_0f7a4_28 ?_
  refine r_ldc_w dJ6_bitCount_0f7a4_29 kcJ6_267 ?_
  refine r_iand dJ6_bitCount_0f7a4_32 ?_
  refine r_istore_n0 dJ6_bitCount_0f7a4_33 ?_
  refine r_iload_n dJ6_bitCount_0f7a4_34 rfl ?_
  refine r_iload_n dJ6_bitCount_0f7a4_35 rfl ?_
  refine r_bipush (v := 8) dJ6_bitCount_0f7a4_36 (by decide) ?_
  refine r_iushr dJ6_bitCount_0f7a4_38 ?_
  refine r_iadd dJ6_bitCount_0f7a4_39 ?_
  refine r_istore_n0 dJ6_bitCount_0f7a4_40 ?_
  refine r_iload_n dJ6_bitCount_0f7a4_41 rfl ?_
  refine r_iload_n dJ6_bitCount_0f7a4_42 rfl ?_
  refine r_bipush (v := 16) dJ6_bitCount_0f7a4_43 (by decide) ?_
  refine r_iushr dJ6_bitCount_0f7a4_45 ?_
  refine r_iadd dJ6_bitCount_0f7a4_46 ?_
  refine r_istore_n0 dJ6_bitCount_0f7a4_47 ?_
  refine r_iload_n dJ6_bitCount_0f7a4_48 rfl ?_
  refine r_bipush (v := 63) dJ6_bitCount_0f7a4_49 (by decide) ?_
  refine r_iand dJ6_bitCount_0f7a4_51 ?_
  exact r_iret dJ6_bitCount_0f7a4_52 rfl rfl rfl rfl
/-- the heaviest of some strands, the first of several -/
def sHe (g : Nat → Int32) (w : Int32) : Nat → Int32
  | 0 => -1
  | j + 1 => if (w >>> (nI j &&& 31)) &&& 1 = 1 ∧ (sHe g w j = -1 ∨ g (sHe g w j).toNatClampNeg < g j) then nI j else sHe g w j
theorem sHe_in (g : Nat → Int32) (w : Int32) : ∀ j, j ≤ 12 → sHe g w j = -1 ∨ vp_in (sHe g w j) 12
  | 0, _ => Or.inl rfl
  | j + 1, h => by
    unfold sHe
    split
    · exact Or.inr (vp_in_nI (by omega) (by omega))
    · exact sHe_in g w j (by omega)
theorem in12 {j : Nat} (h : j < 12) : vp_in (nI j) 12 := vp_in_nI h (by omega)
theorem cl12 {j : Nat} (h : j < 12) : (nI j).toNatClampNeg = j := nI_clamp (by omega)
set_option maxHeartbeats 1000000 in
theorem l_heaviestOf {E : xCl} {ex : Bool} {I : Nat → Nat → Int32} {J : Nat → Nat → Int64} {P : Nat → Nat → Nat} (w : Int32) (d : Nat) : ∀ j, j ≤ 12 → xR (xEx E ex (d + 0)) ex none yX3_heaviestOf cX3_heaviestOf (some .int) 4 [some (.ref 99), some (.int w), some (.int (sHe (I 99) w j)), some (.int (nI j))] [] (SH, I, J, P) (xEq (some (.int (sHe (I 99) w 12))) (SH, I, J, P)) := by
  refine r_for (fun j => xR (xEx E ex (d + 0)) ex none yX3_heaviestOf cX3_heaviestOf (some .int) 4 [some (.ref 99), some (.int w), some (.int (sHe (I 99) w j)), some (.int (nI j))] [] (SH, I, J, P) (xEq (some (.int (sHe (I 99) w 12))) (SH, I, J, P))) _ ?_ ?_
  · intro j hj ih
    refine r_iload_n dX3_heaviestOf_4 rfl ?_
    refine r_aload_n dX3_heaviestOf_5 rfl ?_
    refine r_alen dX3_heaviestOf_6 sh_99 ?_
    refine r_ic_ge 41 dX3_heaviestOf_7 (by decide) (fun c7 => ?_) (fun c7 => ?_)
    · exact absurd c7 (lt12 hj)
    · refine r_iload_n dX3_heaviestOf_10 rfl ?_
      refine r_iload_n dX3_heaviestOf_11 rfl ?_
      refine r_ishr dX3_heaviestOf_12 ?_
      refine r_iconst (v := 1) dX3_heaviestOf_13 (by decide) ?_
      refine r_iand dX3_heaviestOf_14 ?_
      refine r_iconst (v := 1) dX3_heaviestOf_15 (by decide) ?_
      refine r_ic_ne 35 dX3_heaviestOf_16 (by decide) (fun c16 => ?_) (fun c16 => ?_)
      · refine r_iinc3 (v := 1) dX3_heaviestOf_35 (by decide) rfl ?_
        refine r_goto 4 dX3_heaviestOf_38 (by decide) ?_
        rw [nI_1]; rw [sHe, if_neg (fun z => c16 z.1)] at ih; exact ih
      · refine r_iload_n dX3_heaviestOf_19 rfl ?_
        refine r_iconst (v := (-1)) dX3_heaviestOf_20 (by decide) ?_
        refine r_ic_eq 33 dX3_heaviestOf_21 (by decide) (fun c21 => ?_) (fun c21 => ?_)
        · refine r_iload_n dX3_heaviestOf_33 rfl ?_
          refine r_istore_n2 dX3_heaviestOf_34 rfl ?_
          refine r_iinc3 (v := 1) dX3_heaviestOf_35 (by decide) rfl ?_
          refine r_goto 4 dX3_heaviestOf_38 (by decide) ?_
          rw [nI_1]; rw [sHe, if_pos ⟨c16, Or.inl c21⟩] at ih; exact ih
        · refine r_aload_n dX3_heaviestOf_24 rfl ?_
          refine r_iload_n dX3_heaviestOf_25 rfl ?_
          refine r_ialv dX3_heaviestOf_26 sh_99 (in12 hj) (congrArg (I 99) (cl12 hj)) ?_
          refine r_aload_n dX3_heaviestOf_27 rfl ?_
          refine r_iload_n dX3_heaviestOf_28 rfl ?_
          refine r_ialv dX3_heaviestOf_29 sh_99 ((sHe_in (I 99) w j (by omega)).resolve_left c21) rfl ?_
          refine r_ic_le 35 dX3_heaviestOf_30 (by decide) (fun c30 => ?_) (fun c30 => ?_)
          · refine r_iinc3 (v := 1) dX3_heaviestOf_35 (by decide) rfl ?_
            refine r_goto 4 dX3_heaviestOf_38 (by decide) ?_
            rw [nI_1]; rw [sHe, if_neg (fun z => z.2.elim c21 (fun y => Int32.not_lt.mpr c30 y))] at ih; exact ih
          · refine r_iload_n dX3_heaviestOf_33 rfl ?_
            refine r_istore_n2 dX3_heaviestOf_34 rfl ?_
            refine r_iinc3 (v := 1) dX3_heaviestOf_35 (by decide) rfl ?_
            refine r_goto 4 dX3_heaviestOf_38 (by decide) ?_
            rw [nI_1]; rw [sHe, if_pos ⟨c16, Or.inr (Int32.not_le.mp c30)⟩] at ih; exact ih
  · refine r_iload_n dX3_heaviestOf_4 rfl ?_
    refine r_aload_n dX3_heaviestOf_5 rfl ?_
    refine r_alen dX3_heaviestOf_6 sh_99 ?_
    refine r_ic_ge 41 dX3_heaviestOf_7 (by decide) (fun c7 => ?_) (fun c7 => ?_)
    · refine r_iload_n dX3_heaviestOf_41 rfl ?_
      exact r_iret dX3_heaviestOf_42 rfl rfl rfl rfl
    · exact absurd (by decide) c7
set_option maxHeartbeats 1000000 in
theorem k_heaviestOf {E : xCl} {ex : Bool} {I : Nat → Nat → Int32} {J : Nat → Nat → Int64} {P : Nat → Nat → Nat} (w : Int32) (d : Nat) : xEx E ex (d + 1) yX3_heaviestOf [.ref 99, .int w] (SH, I, J, P) (some (.int (sHe (I 99) w 12))) (SH, I, J, P) := by
  refine x_enter cqX3_heaviestOf [some (.ref 99), some (.int w), none, none] rfl (by simp [lg_sl, Value.category]) ?_
  refine r_iconst (v := (-1)) dX3_heaviestOf_0 (by decide) ?_
  refine r_istore_n2 dX3_heaviestOf_1 rfl ?_
  refine r_iconst (v := 0) dX3_heaviestOf_2 (by decide) ?_
  refine r_istore_n3 dX3_heaviestOf_3 rfl ?_
  exact l_heaviestOf w d 0 (by decide)
