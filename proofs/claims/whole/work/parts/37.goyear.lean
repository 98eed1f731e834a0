/-! crossings of a year, and the year whole; T o k: what the tale has (3 weight, 4 who goes, 5 load, 6 when) -/
def stC (V : Nat → Nat → Int32) (Lw : Nat → (Nat → Int64) → Int64) (n : Nat) (T : Nat → Nat → Int32) (j : Nat) : Nat → Nat → Int32 := if T 6 j = V 15 0 then (if sBr V Lw n < T 3 (T 4 j).toNatClampNeg + T 5 j then xu V 11 j 2 else xu (xu V 11 j 1) 2 (T 4 j).toNatClampNeg (1 - V 2 (T 4 j).toNatClampNeg)) else V
def rfC (V : Nat → Nat → Int32) (Lw : Nat → (Nat → Int64) → Int64) (n : Nat) (T : Nat → Nat → Int32) (j : Nat) (r : Int32) : Int32 := if T 6 j = V 15 0 then (if sBr V Lw n < T 3 (T 4 j).toNatClampNeg + T 5 j then (if r = -1 then nI j else r) else r) else r
def sCA (V : Nat → Nat → Int32) (Lw : Nat → (Nat → Int64) → Int64) (n : Nat) (T : Nat → Nat → Int32) : Nat → Nat → Nat → Int32
  | 0 => V
  | j + 1 => stC (sCA V Lw n T j) Lw n T j
def sRf (V : Nat → Nat → Int32) (Lw : Nat → (Nat → Int64) → Int64) (n : Nat) (T : Nat → Nat → Int32) : Nat → Int32
  | 0 => -1
  | j + 1 => rfC (sCA V Lw n T j) Lw n T j (sRf V Lw n T j)
theorem Vok.okC {V : Nat → Nat → Int32} {n : Nat} (h : Vok V n) (Lw : Nat → (Nat → Int64) → Int64) (T : Nat → Nat → Int32) (j : Nat) : Vok (stC V Lw n T j) n := by
  unfold stC; split
  · split
    · exact h.xu (by decide) (by decide) (by decide)
    · exact (h.xu (by decide) (by decide) (by decide)).xu (by decide) (by decide) (by decide)
  · exact h
theorem Vok.okCA {V : Nat → Nat → Int32} {n : Nat} (h : Vok V n) (Lw : Nat → (Nat → Int64) → Int64) (T : Nat → Nat → Int32) : ∀ j, Vok (sCA V Lw n T j) n
  | 0 => h
  | j + 1 => (Vok.okCA h Lw T j).okC Lw T j
def sGo (V : Nat → Nat → Int32) (Lw : Nat → (Nat → Int64) → Int64) (n : Nat) (T : Nat → Nat → Int32) (m : Nat) (lo : Int32) : Nat → Nat → Int32 :=
  (fun V4 => xu V4 15 0 (V4 15 0 + 1)) ((fun V3 => if lo = 1 then V3 else sPA V3 n) ((fun V2 => if lo = 4 then V2 else sGA V2 Lw n) ((fun V1 => if lo = 0 then V1 else sFA V1 Lw n) (sCA V Lw n T m))))
theorem Vok.go {V : Nat → Nat → Int32} {n : Nat} (h : Vok V n) (Lw : Nat → (Nat → Int64) → Int64) (T : Nat → Nat → Int32) (m : Nat) (lo : Int32) : Vok (sGo V Lw n T m lo) n := by
  unfold sGo
  have h1 := h.okCA Lw T m
  dsimp only
  refine Vok.xu ?_ (by decide) (by decide) (by decide)
  have h2 : Vok (if lo = 0 then sCA V Lw n T m else sFA (sCA V Lw n T m) Lw n) n := by split; exact h1; exact h1.okFA Lw n
  have h3 : Vok (if lo = 4 then (if lo = 0 then sCA V Lw n T m else sFA (sCA V Lw n T m) Lw n) else sGA (if lo = 0 then sCA V Lw n T m else sFA (sCA V Lw n T m) Lw n) Lw n) n := by split; exact h2; exact h2.okGA Lw n
  split
  · exact h3
  · exact h3.okPA n
set_option maxHeartbeats 2000000 in
theorem t_letCross {E : xCl} {ex : Bool} {I V : Nat → Nat → Int32} {J0 : Nat → Nat → Int64} {P : Nat → Nat → Nat} (hP : Pok P) {b : Nat} (hb : b ∈ BR) {t : Nat} (ht : t ∈ TL) (hbt : P b 0 = t + 1) {n : Nat} (hv : Vok V n) (hL : Lok I t) {m : Nat} (hm : m ≤ 8) (hc : I t 7 = nI m) (hg : ∀ k, vp_in (I (t + 4) k) 6) {j : Nat} (hj : j < m) {Q : Option Value → xS → Prop} {J1 : Nat → Nat → Int64} (r : Int32) (x3 : Option Value) (d : Nat) (k : ∀ J2 x3, Jok J1 J2 t → xR (xEx E ex (d + 6)) ex none yX0_letCross cX0_letCross (some .int) 4 [some (.ref b), some (.int (rfC V (Lv I t) n (fun o => I (t + o)) j r)), some (.int (nI (j + 1))), x3] [] (SH, wB I b (stC V (Lv I t) n (fun o => I (t + o)) j), J2, P) Q) : xR (xEx E ex (d + 6)) ex none yX0_letCross cX0_letCross (some .int) 4 [some (.ref b), some (.int r), some (.int (nI j)), x3] [] (SH, wB I b V, J1, P) Q := by
  refine r_iload_n dX0_letCross_4 rfl ?_
  refine r_aload_n dX0_letCross_5 rfl ?_
  refine r_getR dX0_letCross_6 flX0_49 (br_s _ hb) (by decide) rfl hbt ?_
  refine r_getIv dX0_letCross_9 flX0_79 (tl_s _ ht) (by decide) rfl ((wB_t0 _ hb _ ht _).trans hc) ?_
  refine r_ic_ge 124 dX0_letCross_12 (by decide) (fun c12 => ?_) (fun c12 => ?_)
  · exact absurd c12 (nI_ge hj (by omega))
  · refine r_iload_n dX0_letCross_15 rfl ?_
    refine r_bipush (v := 8) dX0_letCross_16 (by decide) ?_
    refine r_ic_ge 124 dX0_letCross_18 (by decide) (fun c18 => ?_) (fun c18 => ?_)
    · exact absurd c18 (lt8 (by omega))
    · refine r_aload_n dX0_letCross_21 rfl ?_
      refine r_getR dX0_letCross_22 flX0_49 (br_s _ hb) (by decide) rfl hbt ?_
      refine r_getR dX0_letCross_25 flX0_136 (tl_s _ ht) (by decide) rfl (tl_p6 hP _ ht) ?_
      refine r_iload_n dX0_letCross_28 rfl ?_
      refine r_ialv dX0_letCross_29 (tl_a6 _ ht) (im8 hj hm) ((wB_t _ hb _ ht (by decide) _).trans (congrArg (I _) (cl8 hj hm))) ?_
      refine r_aload_n dX0_letCross_30 rfl ?_
      refine r_getIv dX0_letCross_31 flX0_63 (br_s _ hb) (by decide) rfl (wB_i _ _ _ (by decide)) ?_
      refine r_ic_eq 40 dX0_letCross_34 (by decide) (fun c34 => ?_) (fun c34 => ?_)
      · refine r_aload_n dX0_letCross_40 rfl ?_
        refine r_getR dX0_letCross_41 flX0_49 (br_s _ hb) (by decide) rfl hbt ?_
        refine r_getR dX0_letCross_44 flX0_139 (tl_s _ ht) (by decide) rfl (tl_p4 hP _ ht) ?_
        refine r_iload_n dX0_letCross_47 rfl ?_
        refine r_ialv dX0_letCross_48 (tl_a4 _ ht) (im8 hj hm) ((wB_t _ hb _ ht (by decide) _).trans (congrArg (I _) (cl8 hj hm))) ?_
        refine r_istore_n3 dX0_letCross_49 rfl ?_
        refine r_aload_n dX0_letCross_50 rfl ?_
        refine r_getR dX0_letCross_51 flX0_49 (br_s _ hb) (by decide) rfl hbt ?_
        refine r_getR dX0_letCross_54 flX0_142 (tl_s _ ht) (by decide) rfl (tl_p2 hP _ ht) ?_
        refine r_iload_n dX0_letCross_57 rfl ?_
        refine r_ialv dX0_letCross_58 (tl_a2 _ ht) (hg _) (wB_t _ hb _ ht (by decide) _) ?_
        refine r_aload_n dX0_letCross_59 rfl ?_
        refine r_getR dX0_letCross_60 flX0_49 (br_s _ hb) (by decide) rfl hbt ?_
        refine r_getR dX0_letCross_63 flX0_145 (tl_s _ ht) (by decide) rfl (tl_p5 hP _ ht) ?_
        refine r_iload_n dX0_letCross_66 rfl ?_
        refine r_ialv dX0_letCross_67 (tl_a5 _ ht) (im8 hj hm) ((wB_t _ hb _ ht (by decide) _).trans (congrArg (I _) (cl8 hj hm))) ?_
        refine r_iadd dX0_letCross_68 ?_
        refine r_aload_n dX0_letCross_69 rfl ?_
        obtain ⟨J70, hx70, hj70⟩ := k_bridgeBears (E := E) (ex := ex) (J := J1) hP hb ht hbt hv hL d
        refine r_cV0i dX0_letCross_70 vlX0_148 (br_s _ hb) (Nat.le_of_ble_eq_true rfl) hx70 ?_
        refine r_ic_gt 100 dX0_letCross_73 (by decide) (fun c73 => ?_) (fun c73 => ?_)
        · refine r_aload_n dX0_letCross_100 rfl ?_
          refine r_getR dX0_letCross_101 flX0_42 (br_s _ hb) (by decide) rfl (br_p11 hP _ hb) ?_
          refine r_iload_n dX0_letCross_104 rfl ?_
          refine r_iconst (v := 2) dX0_letCross_105 (by decide) ?_
          refine r_iasv dX0_letCross_106 (br_a11 _ hb) (im8 hj hm) ((congrArg (fun z => xu _ _ z _) (cl8 hj hm)).trans (wB_xa (f := 11) _ _ _ (by decide) (by decide) (Nat.lt_of_lt_of_le hj hm) _)) ?_
          refine r_iload_n dX0_letCross_107 rfl ?_
          refine r_iconst (v := (-1)) dX0_letCross_108 (by decide) ?_
          refine r_ic_ne 116 dX0_letCross_109 (by decide) (fun c109 => ?_) (fun c109 => ?_)
          · refine r_iload_n dX0_letCross_116 rfl ?_
            refine r_istore_n1 dX0_letCross_117 rfl ?_
            refine r_iinc2 (v := 1) dX0_letCross_118 (by decide) rfl ?_
            refine r_goto 4 dX0_letCross_121 (by decide) ?_
            rw [nI_1]; rw [stC, if_pos c34, if_pos c73, rfC, if_pos c34, if_pos c73, if_neg c109] at k; exact k _ _ hj70
          · refine r_iload_n dX0_letCross_112 rfl ?_
            refine r_goto 117 dX0_letCross_113 (by decide) ?_
            refine r_istore_n1 dX0_letCross_117 rfl ?_
            refine r_iinc2 (v := 1) dX0_letCross_118 (by decide) rfl ?_
            refine r_goto 4 dX0_letCross_121 (by decide) ?_
            rw [nI_1]; rw [stC, if_pos c34, if_pos c73, rfC, if_pos c34, if_pos c73, if_pos c109] at k; exact k _ _ hj70
        · refine r_aload_n dX0_letCross_76 rfl ?_
          refine r_getR dX0_letCross_77 flX0_42 (br_s _ hb) (by decide) rfl (br_p11 hP _ hb) ?_
          refine r_iload_n dX0_letCross_80 rfl ?_
          refine r_iconst (v := 1) dX0_letCross_81 (by decide) ?_
          refine r_iasv dX0_letCross_82 (br_a11 _ hb) (im8 hj hm) ((congrArg (fun z => xu _ _ z _) (cl8 hj hm)).trans (wB_xa (f := 11) _ _ _ (by decide) (by decide) (Nat.lt_of_lt_of_le hj hm) _)) ?_
          refine r_aload_n dX0_letCross_83 rfl ?_
          refine r_getR dX0_letCross_84 flX0_15 (br_s _ hb) (by decide) rfl (br_p2 hP _ hb) ?_
          refine r_iload_n dX0_letCross_87 rfl ?_
          refine r_iconst (v := 1) dX0_letCross_88 (by decide) ?_
          refine r_aload_n dX0_letCross_89 rfl ?_
          refine r_getR dX0_letCross_90 flX0_15 (br_s _ hb) (by decide) rfl (br_p2 hP _ hb) ?_
          refine r_iload_n dX0_letCross_93 rfl ?_
          refine r_ialv dX0_letCross_94 (br_a2 _ hb) (hg _) ((wB_a _ _ _ (by decide) (by decide) (vlt (hg _))).trans (xu_f _ _ (by decide))) ?_
          refine r_isub dX0_letCross_95 ?_
          refine r_iasv dX0_letCross_96 (br_a2 _ hb) (hg _) (wB_xa _ _ _ (by decide) (by decide) (vlt (hg _)) _) ?_
          refine r_goto 118 dX0_letCross_97 (by decide) ?_
          refine r_iinc2 (v := 1) dX0_letCross_118 (by decide) rfl ?_
          refine r_goto 4 dX0_letCross_121 (by decide) ?_
          rw [nI_1]; rw [stC, if_pos c34, if_neg c73, rfC, if_pos c34, if_neg c73] at k; exact k _ _ hj70
      · refine r_goto 118 dX0_letCross_37 (by decide) ?_
        refine r_iinc2 (v := 1) dX0_letCross_118 (by decide) rfl ?_
        refine r_goto 4 dX0_letCross_121 (by decide) ?_
        rw [nI_1]; rw [stC, if_neg c34, rfC, if_neg c34] at k; exact k _ _ (Jok.rf _ _)
theorem l_letCross {E : xCl} {ex : Bool} {I V : Nat → Nat → Int32} {J : Nat → Nat → Int64} {P : Nat → Nat → Nat} (hP : Pok P) {b : Nat} (hb : b ∈ BR) {t : Nat} (ht : t ∈ TL) (hbt : P b 0 = t + 1) {n : Nat} (hv : Vok V n) (hL : Lok I t) {m : Nat} (hm : m ≤ 8) (hc : I t 7 = nI m) (hg : ∀ k, vp_in (I (t + 4) k) 6) (d : Nat) : ∀ j, j ≤ m → ∀ J1 x3, Jok J J1 t → xR (xEx E ex (d + 6)) ex none yX0_letCross cX0_letCross (some .int) 4 [some (.ref b), some (.int (sRf V (Lv I t) n (fun o => I (t + o)) j)), some (.int (nI j)), x3] [] (SH, wB I b (sCA V (Lv I t) n (fun o => I (t + o)) j), J1, P) (Qj (wB I b (sCA V (Lv I t) n (fun o => I (t + o)) m)) J P t (some (.int (sRf V (Lv I t) n (fun o => I (t + o)) m)))) := by
  refine r_for (fun j => ∀ J1 x3, Jok J J1 t → xR (xEx E ex (d + 6)) ex none yX0_letCross cX0_letCross (some .int) 4 [some (.ref b), some (.int (sRf V (Lv I t) n (fun o => I (t + o)) j)), some (.int (nI j)), x3] [] (SH, wB I b (sCA V (Lv I t) n (fun o => I (t + o)) j), J1, P) (Qj (wB I b (sCA V (Lv I t) n (fun o => I (t + o)) m)) J P t (some (.int (sRf V (Lv I t) n (fun o => I (t + o)) m))))) _ ?_ ?_
  · intro j hj ih J1 x3 hJ
    exact t_letCross (J0 := J) hP hb ht hbt (hv.okCA (Lv I t) (fun o => I (t + o)) j) hL hm hc hg hj _ _ d (fun J2 x3 h2 => ih J2 x3 (hJ.tr h2))
  · intro J1 x3 hJ
    refine r_iload_n dX0_letCross_4 rfl ?_
    refine r_aload_n dX0_letCross_5 rfl ?_
    refine r_getR dX0_letCross_6 flX0_49 (br_s _ hb) (by decide) rfl hbt ?_
    refine r_getIv dX0_letCross_9 flX0_79 (tl_s _ ht) (by decide) rfl ((wB_t0 _ hb _ ht _).trans hc) ?_
    refine r_ic_ge 124 dX0_letCross_12 (by decide) (fun c12 => ?_) (fun c12 => ?_)
    · refine r_iload_n dX0_letCross_124 rfl ?_
      exact r_iretq dX0_letCross_125 rfl rfl (Qj.mk hJ)
    · exact absurd (nI_le (Nat.le_refl _) (by omega)) c12
set_option maxHeartbeats 1000000 in
theorem k_letCross {E : xCl} {ex : Bool} {I V : Nat → Nat → Int32} {J : Nat → Nat → Int64} {P : Nat → Nat → Nat} (hP : Pok P) {b : Nat} (hb : b ∈ BR) {t : Nat} (ht : t ∈ TL) (hbt : P b 0 = t + 1) {n : Nat} (hv : Vok V n) (hL : Lok I t) {m : Nat} (hm : m ≤ 8) (hc : I t 7 = nI m) (hg : ∀ k, vp_in (I (t + 4) k) 6) (d : Nat) : ∃ J', xEx E ex (d + 7) yX0_letCross [.ref b] (SH, wB I b V, J, P) (some (.int (sRf V (Lv I t) n (fun o => I (t + o)) m))) (SH, wB I b (sCA V (Lv I t) n (fun o => I (t + o)) m), J', P) ∧ Jok J J' t := by
  refine Qj.use (x_enterq (d := d + 6) cqX0_letCross [some (.ref b), none, none, none] rfl (by simp [lg_sl, Value.category]) ?_)
  refine r_iconst (v := (-1)) dX0_letCross_0 (by decide) ?_
  refine r_istore_n1 dX0_letCross_1 rfl ?_
  refine r_iconst (v := 0) dX0_letCross_2 (by decide) ?_
  refine r_istore_n2 dX0_letCross_3 rfl ?_
  exact l_letCross hP hb ht hbt hv hL hm hc hg d 0 (Nat.zero_le m) J none (Jok.rf J t)
set_option maxHeartbeats 1000000 in
theorem k_goYear {E : xCl} {ex : Bool} {I V : Nat → Nat → Int32} {J : Nat → Nat → Int64} {P : Nat → Nat → Nat} (hP : Pok P) {b : Nat} (hb : b ∈ BR) {t : Nat} (ht : t ∈ TL) (hbt : P b 0 = t + 1) {n : Nat} (hv : Vok V n) (hL : Lok I t) {m : Nat} (hm : m ≤ 8) (hc : I t 7 = nI m) (hg : ∀ k, vp_in (I (t + 4) k) 6) (lo : Int32) (d : Nat) : ∃ J', xEx E ex (d + 8) yX0_goYear [.ref b, .int lo] (SH, wB I b V, J, P) (some (.int (sRf V (Lv I t) n (fun o => I (t + o)) m))) (SH, wB I b (sGo V (Lv I t) n (fun o => I (t + o)) m lo), J', P) ∧ Jok J J' t := by
  refine Qj.use (x_enterq (d := d + 7) cqX0_goYear [some (.ref b), some (.int lo), none] rfl (by simp [lg_sl, Value.category]) ?_)
  refine r_aload_n dX0_goYear_0 rfl ?_
  obtain ⟨J1, hx1, hj1⟩ := k_letCross (E := E) (ex := ex) (J := J) hP hb ht hbt hv hL hm hc hg d
  have hv1 := hv.okCA (Lv I t) (fun o => I (t + o)) m
  refine r_cV0i dX0_goYear_1 vlX0_123 (br_s _ hb) (Nat.le_of_ble_eq_true rfl) hx1 ?_
  refine r_istore_n2 dX0_goYear_4 rfl ?_
  refine r_iload_n dX0_goYear_5 rfl ?_
  refine r_if_eq 13 dX0_goYear_6 (by decide) (fun c6 => ?_) (fun c6 => ?_)
  · refine r_iload_n dX0_goYear_13 rfl ?_
    refine r_iconst (v := 4) dX0_goYear_14 (by decide) ?_
    refine r_ic_eq 22 dX0_goYear_15 (by decide) (fun c15 => ?_) (fun c15 => ?_)
    · refine r_iload_n dX0_goYear_22 rfl ?_
      refine r_iconst (v := 1) dX0_goYear_23 (by decide) ?_
      refine r_ic_eq 31 dX0_goYear_24 (by decide) (fun c24 => ?_) (fun c24 => ?_)
      · refine r_aload_n dX0_goYear_31 rfl ?_
        refine r_dup dX0_goYear_32 rfl ?_
        refine r_getIv dX0_goYear_33 flX0_63 (br_s _ hb) (by decide) rfl (wB_i _ _ _ (by decide)) ?_
        refine r_iconst (v := 1) dX0_goYear_36 (by decide) ?_
        refine r_iadd dX0_goYear_37 ?_
        refine r_putIv dX0_goYear_38 flX0_63 ⟨_, _, _, rfl, Or.inl rfl⟩ (br_s _ hb) (by decide) rfl rfl rfl (wB_xi _ _ _ (by decide) _) ?_
        refine r_iload_n dX0_goYear_41 rfl ?_
        exact r_iretq dX0_goYear_42 rfl rfl (by unfold sGo; dsimp only; rw [if_pos c6, if_pos c15, if_pos c24]; exact Qj.mk hj1)
      · refine r_aload_n dX0_goYear_27 rfl ?_
        refine r_cV0v dX0_goYear_28 vlX0_133 (br_s _ hb) (Nat.le_of_ble_eq_true rfl) (k_payAll hP hb hv1 (d + 3)) ?_
        refine r_aload_n dX0_goYear_31 rfl ?_
        refine r_dup dX0_goYear_32 rfl ?_
        refine r_getIv dX0_goYear_33 flX0_63 (br_s _ hb) (by decide) rfl (wB_i _ _ _ (by decide)) ?_
        refine r_iconst (v := 1) dX0_goYear_36 (by decide) ?_
        refine r_iadd dX0_goYear_37 ?_
        refine r_putIv dX0_goYear_38 flX0_63 ⟨_, _, _, rfl, Or.inl rfl⟩ (br_s _ hb) (by decide) rfl rfl rfl (wB_xi _ _ _ (by decide) _) ?_
        refine r_iload_n dX0_goYear_41 rfl ?_
        exact r_iretq dX0_goYear_42 rfl rfl (by unfold sGo; dsimp only; rw [if_pos c6, if_pos c15, if_neg c24]; exact Qj.mk hj1)
    · refine r_aload_n dX0_goYear_18 rfl ?_
      obtain ⟨J19, hx19, hj19⟩ := k_growAll (E := E) (ex := ex) (J := J1) hP hb ht hbt hv1 hL (d + 1)
      have hj19 := hj1.tr hj19
      have hv3 := hv1.okGA (Lv I t) n
      refine r_cV0v dX0_goYear_19 vlX0_130 (br_s _ hb) (Nat.le_of_ble_eq_true rfl) hx19 ?_
      refine r_iload_n dX0_goYear_22 rfl ?_
      refine r_iconst (v := 1) dX0_goYear_23 (by decide) ?_
      refine r_ic_eq 31 dX0_goYear_24 (by decide) (fun c24 => ?_) (fun c24 => ?_)
      · refine r_aload_n dX0_goYear_31 rfl ?_
        refine r_dup dX0_goYear_32 rfl ?_
        refine r_getIv dX0_goYear_33 flX0_63 (br_s _ hb) (by decide) rfl (wB_i _ _ _ (by decide)) ?_
        refine r_iconst (v := 1) dX0_goYear_36 (by decide) ?_
        refine r_iadd dX0_goYear_37 ?_
        refine r_putIv dX0_goYear_38 flX0_63 ⟨_, _, _, rfl, Or.inl rfl⟩ (br_s _ hb) (by decide) rfl rfl rfl (wB_xi _ _ _ (by decide) _) ?_
        refine r_iload_n dX0_goYear_41 rfl ?_
        exact r_iretq dX0_goYear_42 rfl rfl (by unfold sGo; dsimp only; rw [if_pos c6, if_neg c15, if_pos c24]; exact Qj.mk hj19)
      · refine r_aload_n dX0_goYear_27 rfl ?_
        refine r_cV0v dX0_goYear_28 vlX0_133 (br_s _ hb) (Nat.le_of_ble_eq_true rfl) (k_payAll hP hb hv3 (d + 3)) ?_
        refine r_aload_n dX0_goYear_31 rfl ?_
        refine r_dup dX0_goYear_32 rfl ?_
        refine r_getIv dX0_goYear_33 flX0_63 (br_s _ hb) (by decide) rfl (wB_i _ _ _ (by decide)) ?_
        refine r_iconst (v := 1) dX0_goYear_36 (by decide) ?_
        refine r_iadd dX0_goYear_37 ?_
        refine r_putIv dX0_goYear_38 flX0_63 ⟨_, _, _, rfl, Or.inl rfl⟩ (br_s _ hb) (by decide) rfl rfl rfl (wB_xi _ _ _ (by decide) _) ?_
        refine r_iload_n dX0_goYear_41 rfl ?_
        exact r_iretq dX0_goYear_42 rfl rfl (by unfold sGo; dsimp only; rw [if_pos c6, if_neg c15, if_neg c24]; exact Qj.mk hj19)
  · refine r_aload_n dX0_goYear_9 rfl ?_
    obtain ⟨J10, hx10, hj10⟩ := k_frayAll (E := E) (ex := ex) (J := J1) hP hb ht hbt hv1 hL (d + 1)
    have hj10 := hj1.tr hj10
    have hv2 := hv1.okFA (Lv I t) n
    refine r_cV0v dX0_goYear_10 vlX0_127 (br_s _ hb) (Nat.le_of_ble_eq_true rfl) hx10 ?_
    refine r_iload_n dX0_goYear_13 rfl ?_
    refine r_iconst (v := 4) dX0_goYear_14 (by decide) ?_
    refine r_ic_eq 22 dX0_goYear_15 (by decide) (fun c15 => ?_) (fun c15 => ?_)
    · refine r_iload_n dX0_goYear_22 rfl ?_
      refine r_iconst (v := 1) dX0_goYear_23 (by decide) ?_
      refine r_ic_eq 31 dX0_goYear_24 (by decide) (fun c24 => ?_) (fun c24 => ?_)
      · refine r_aload_n dX0_goYear_31 rfl ?_
        refine r_dup dX0_goYear_32 rfl ?_
        refine r_getIv dX0_goYear_33 flX0_63 (br_s _ hb) (by decide) rfl (wB_i _ _ _ (by decide)) ?_
        refine r_iconst (v := 1) dX0_goYear_36 (by decide) ?_
        refine r_iadd dX0_goYear_37 ?_
        refine r_putIv dX0_goYear_38 flX0_63 ⟨_, _, _, rfl, Or.inl rfl⟩ (br_s _ hb) (by decide) rfl rfl rfl (wB_xi _ _ _ (by decide) _) ?_
        refine r_iload_n dX0_goYear_41 rfl ?_
        exact r_iretq dX0_goYear_42 rfl rfl (by unfold sGo; dsimp only; rw [if_neg c6, if_pos c15, if_pos c24]; exact Qj.mk hj10)
      · refine r_aload_n dX0_goYear_27 rfl ?_
        refine r_cV0v dX0_goYear_28 vlX0_133 (br_s _ hb) (Nat.le_of_ble_eq_true rfl) (k_payAll hP hb hv2 (d + 3)) ?_
        refine r_aload_n dX0_goYear_31 rfl ?_
        refine r_dup dX0_goYear_32 rfl ?_
        refine r_getIv dX0_goYear_33 flX0_63 (br_s _ hb) (by decide) rfl (wB_i _ _ _ (by decide)) ?_
        refine r_iconst (v := 1) dX0_goYear_36 (by decide) ?_
        refine r_iadd dX0_goYear_37 ?_
        refine r_putIv dX0_goYear_38 flX0_63 ⟨_, _, _, rfl, Or.inl rfl⟩ (br_s _ hb) (by decide) rfl rfl rfl (wB_xi _ _ _ (by decide) _) ?_
        refine r_iload_n dX0_goYear_41 rfl ?_
        exact r_iretq dX0_goYear_42 rfl rfl (by unfold sGo; dsimp only; rw [if_neg c6, if_pos c15, if_neg c24]; exact Qj.mk hj10)
    · refine r_aload_n dX0_goYear_18 rfl ?_
      obtain ⟨J19, hx19, hj19⟩ := k_growAll (E := E) (ex := ex) (J := J10) hP hb ht hbt hv2 hL (d + 1)
      have hj19 := hj10.tr hj19
      have hv3 := hv2.okGA (Lv I t) n
      refine r_cV0v dX0_goYear_19 vlX0_130 (br_s _ hb) (Nat.le_of_ble_eq_true rfl) hx19 ?_
      refine r_iload_n dX0_goYear_22 rfl ?_
      refine r_iconst (v := 1) dX0_goYear_23 (by decide) ?_
      refine r_ic_eq 31 dX0_goYear_24 (by decide) (fun c24 => ?_) (fun c24 => ?_)
      · refine r_aload_n dX0_goYear_31 rfl ?_
        refine r_dup dX0_goYear_32 rfl ?_
        refine r_getIv dX0_goYear_33 flX0_63 (br_s _ hb) (by decide) rfl (wB_i _ _ _ (by decide)) ?_
        refine r_iconst (v := 1) dX0_goYear_36 (by decide) ?_
        refine r_iadd dX0_goYear_37 ?_
        refine r_putIv dX0_goYear_38 flX0_63 ⟨_, _, _, rfl, Or.inl rfl⟩ (br_s _ hb) (by decide) rfl rfl rfl (wB_xi _ _ _ (by decide) _) ?_
        refine r_iload_n dX0_goYear_41 rfl ?_
        exact r_iretq dX0_goYear_42 rfl rfl (by unfold sGo; dsimp only; rw [if_neg c6, if_neg c15, if_pos c24]; exact Qj.mk hj19)
      · refine r_aload_n dX0_goYear_27 rfl ?_
        refine r_cV0v dX0_goYear_28 vlX0_133 (br_s _ hb) (Nat.le_of_ble_eq_true rfl) (k_payAll hP hb hv3 (d + 3)) ?_
        refine r_aload_n dX0_goYear_31 rfl ?_
        refine r_dup dX0_goYear_32 rfl ?_
        refine r_getIv dX0_goYear_33 flX0_63 (br_s _ hb) (by decide) rfl (wB_i _ _ _ (by decide)) ?_
        refine r_iconst (v := 1) dX0_goYear_36 (by decide) ?_
        refine r_iadd dX0_goYear_37 ?_
        refine r_putIv dX0_goYear_38 flX0_63 ⟨_, _, _, rfl, Or.inl rfl⟩ (br_s _ hb) (by decide) rfl rfl rfl (wB_xi _ _ _ (by decide) _) ?_
        refine r_iload_n dX0_goYear_41 rfl ?_
        exact r_iretq dX0_goYear_42 rfl rfl (by unfold sGo; dsimp only; rw [if_neg c6, if_neg c15, if_neg c24]; exact Qj.mk hj19)
