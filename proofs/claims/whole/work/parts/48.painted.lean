/-! whose debt is painted, which load would tell, loans -/
theorem sLy_eq {I I' : Nat → Nat → Int32} (h : ∀ k, I' 94 k = I 94 k) (w : Int32) : ∀ j, sLy I' w j = sLy I w j
  | 0 => rfl
  | j + 1 => by unfold sLy; rw [h, sLy_eq h w j]
theorem sKb_eq {I I' : Nat → Nat → Int32} (h : ∀ k, I' 94 k = I 94 k) (h7 : ∀ k, I' 97 k = I 97 k) : ∀ j s u, sKb I' j s u = sKb I j s u
  | 0, _, _ => rfl
  | j + 1, s, u => by unfold sKb; rw [h, h7, sKb_eq h h7 j, sKb_eq h h7 j, sKb_eq h h7 j]
theorem o80 {I W : Nat → Nat → Int32} {a : Nat} (ha : a ∈ OTH) (k : Nat) : wB I 80 W a k = I a k := wB_o I 80 W (br_x _ hb80 a ha) k
/-- the known sags come from bridges that bear B y behind y years -/
def sMk (I : Nat → Nat → Int32) (B : Nat → Int32) (w : Int32) (s : Nat) (last : Int32) : Prop := ∀ y : Nat, y ≤ 50 → nI y ≤ last → ∀ i, i < s → okA I (B y) (nI y) w i
def lastY (I : Nat → Nat → Int32) (w : Int32) (s : Nat) : Int32 := if 50 < sLy I w s then 50 else sLy I w s
theorem lastY_le (I : Nat → Nat → Int32) (w : Int32) (s : Nat) : ¬ nI 51 ≤ lastY I w s := by
  unfold lastY
  split
  · decide
  · rename_i h
    intro q
    apply h
    have : (50 : Int32) < nI 51 := by decide
    exact Int32.lt_of_lt_of_le this q
theorem Pok.x8 {P : Nat → Nat → Nat} (h : Pok P) (v : Nat) : Pok (xu P 80 0 v) := h.xb hb80 v
set_option maxHeartbeats 2000000 in
theorem l_makes {E : xCl} {ex : Bool} {I : Nat → Nat → Int32} {J : Nat → Nat → Int64} {P : Nat → Nat → Nat} (hP : Pok P) {t : Nat} (ht : t ∈ TL) (hx5 : P 0 5 = t + 1) (hb8 : P 80 0 = t + 1) {V0 : Nat → Nat → Int32} {nF : Nat} (hv : Vok V0 nF) (hL : Lok I t) {m : Nat} (hm : m ≤ 8) (hc : I t 7 = nI m) (hg : ∀ k, vp_in (I (t + 4) k) 6) {s : Nat} (hs : s ≤ 24) (h4 : I 93 4 = nI s) (w last r : Int32) (hl : ¬ nI 51 ≤ last) (h1 : sMk I (fun y => sBr ((sYr V0 (Lv I t) nF (fun o => I (t + o)) m) y) (Lv I t) nF) w s last → r = 1) (h0 : ¬ sMk I (fun y => sBr ((sYr V0 (Lv I t) nF (fun o => I (t + o)) m) y) (Lv I t) nF) w s last → r = 0) (c0 : Int32) (d : Nat) : ∀ c j J1, j + c = 51 → Jok J J1 t → (∀ y, y < j → nI y ≤ last → ∀ i, i < s → okA I ((fun y => sBr ((sYr V0 (Lv I t) nF (fun o => I (t + o)) m) y) (Lv I t) nF) y) (nI y) w i) → xR (xEx E ex (d + 8)) ex none yX10_makesKnownSo cX10_makesKnownSo (some .boolean) 38 [some (.ref 0), some (.int c0), some (.int w), some (.int last), some (.int (nI j))] [] (SH, wB I 80 ((sYr V0 (Lv I t) nF (fun o => I (t + o)) m) j), J1, P) (Qt I J P t (some (.int r))) := by
  intro c
  induction c with
  | zero =>
    intro j J1 hj hJ hall
    refine r_iload dX10_makesKnownSo_38 rfl ?_
    refine r_iload_n dX10_makesKnownSo_40 rfl ?_
    refine r_ic_gt 78 dX10_makesKnownSo_41 (by decide) (fun c41 => ?_) (fun c41 => ?_)
    · exact r_iconst (v := 1) dX10_makesKnownSo_78 (by decide) (r_iretq dX10_makesKnownSo_79 rfl rfl (by rw [h1 (fun y hy hyl i hi => hall y (Classical.byContradiction (fun z => absurd hyl (fun q => Int32.lt_irrefl (Int32.lt_of_lt_of_le c41 (Int32.le_trans (nI_le (a := j) (b := y) (by omega) (by omega)) q))))) hyl i hi)]; exact Qt.mk hJ))
    · exact absurd (Int32.not_lt.mp c41) (by rw [show j = 51 by omega]; exact hl)
  | succ c ih =>
    intro j J1 hj hJ hall
    refine r_iload dX10_makesKnownSo_38 rfl ?_
    refine r_iload_n dX10_makesKnownSo_40 rfl ?_
    refine r_ic_gt 78 dX10_makesKnownSo_41 (by decide) (fun c41 => ?_) (fun c41 => ?_)
    · exact r_iconst (v := 1) dX10_makesKnownSo_78 (by decide) (r_iretq dX10_makesKnownSo_79 rfl rfl (by rw [h1 (fun y hy hyl i hi => hall y (Classical.byContradiction (fun z => absurd hyl (fun q => Int32.lt_irrefl (Int32.lt_of_lt_of_le c41 (Int32.le_trans (nI_le (a := j) (b := y) (by omega) (by omega)) q))))) hyl i hi)]; exact Qt.mk hJ))
    · refine r_aload_n dX10_makesKnownSo_44 rfl ?_
      refine r_getR dX10_makesKnownSo_45 flX10_58 sh_0 (by decide) rfl (pf_0_14 hP) ?_
      refine r_aload_n dX10_makesKnownSo_48 rfl ?_
      refine r_getR dX10_makesKnownSo_49 flX10_48 sh_0 (by decide) rfl (pf_0_10 hP) ?_
      refine r_iload dX10_makesKnownSo_52 rfl ?_
      refine r_iload_n dX10_makesKnownSo_54 rfl ?_
      by_cases ha : ∀ i, i < s → okA I (sBr ((sYr V0 (Lv I t) nF (fun o => I (t + o)) m) j) (Lv I t) nF) (nI j) w i
      · obtain ⟨J55, hx55, hj55⟩ := k_agree (E := E) (ex := ex) (J := J1) hP hb80 ht hb8 (hv.yr (Lv I t) (fun o => I (t + o)) m j) hL hs h4 (nI j) w 1 (fun _ => rfl) (fun i hi q => absurd (ha i hi) q) (d + 1)
        refine r_cV3i dX10_makesKnownSo_55 vlX10_352 sh_93 (Nat.le_of_ble_eq_true rfl) hx55 ?_
        refine r_if_ne 63 dX10_makesKnownSo_58 (by decide) (fun c58 => ?_) (fun c58 => ?_)
        · refine r_aload_n dX10_makesKnownSo_63 rfl ?_
          refine r_getR dX10_makesKnownSo_64 flX10_48 sh_0 (by decide) rfl (pf_0_10 hP) ?_
          refine r_iconst (v := (-1)) dX10_makesKnownSo_67 (by decide) ?_
          obtain ⟨J68, hx68, hj68⟩ := k_goYear (E := E) (ex := ex) (V := (sYr V0 (Lv I t) nF (fun o => I (t + o)) m) j) (J := J55) hP hb80 ht hb8 (hv.yr (Lv I t) (fun o => I (t + o)) m j) hL hm hc hg (-1) (d)
          refine r_cV1i dX10_makesKnownSo_68 vlX10_276 (br_s _ hb80) (Nat.le_of_ble_eq_true rfl) hx68 ?_
          refine r_pop dX10_makesKnownSo_71 rfl ?_
          refine r_iinc4 (v := 1) dX10_makesKnownSo_72 (by decide) rfl ?_
          refine r_goto 38 dX10_makesKnownSo_75 (by decide) ?_
          rw [nI_1]; exact ih (j + 1) _ (by omega) ((hJ.tr hj55).tr hj68) (fun y hy => (Nat.lt_succ_iff_lt_or_eq.mp hy).elim (fun q => hall y q) (fun q _ => by subst q; exact ha))
        · exact absurd c58 (by decide)
      · obtain ⟨J55, hx55, hj55⟩ := k_agree (E := E) (ex := ex) (J := J1) hP hb80 ht hb8 (hv.yr (Lv I t) (fun o => I (t + o)) m j) hL hs h4 (nI j) w 0 (fun q => absurd q ha) (fun _ _ _ => rfl) (d + 1)
        refine r_cV3i dX10_makesKnownSo_55 vlX10_352 sh_93 (Nat.le_of_ble_eq_true rfl) hx55 ?_
        refine r_if_ne 63 dX10_makesKnownSo_58 (by decide) (fun c58 => ?_) (fun c58 => ?_)
        · exact absurd c58 (by decide)
        · refine r_iconst (v := 0) dX10_makesKnownSo_61 (by decide) ?_
          exact r_iretq dX10_makesKnownSo_62 rfl rfl (by rw [h0 (fun q => ha (q j (by omega) (Int32.not_lt.mp c41)))]; exact Qt.mk (hJ.tr hj55))
set_option maxHeartbeats 2000000 in
theorem k_makes {E : xCl} {ex : Bool} {I W : Nat → Nat → Int32} {J : Nat → Nat → Int64} {P : Nat → Nat → Nat} (hP : Pok P) {t : Nat} (ht : t ∈ TL) (hx5 : P 0 5 = t + 1) (hft : P 44 0 = t + 1) {nF : Nat} (hvF : Vok (vB I 44) nF) (hL : Lok I t) {m : Nat} (hm : m ≤ 8) (hc : I t 7 = nI m) (hg : ∀ k, vp_in (I (t + 4) k) 6) {s : Nat} (hs : s ≤ 24) (h4 : I 93 4 = nI s) (c0 w r : Int32) (h1 : sMk I (fun y => sBr ((sYr (sPa (vB I 44) c0 (I t 9)) (Lv I t) nF (fun o => I (t + o)) m) y) (Lv I t) nF) w s (lastY I w s) → r = 1) (h0 : ¬ sMk I (fun y => sBr ((sYr (sPa (vB I 44) c0 (I t 9)) (Lv I t) nF (fun o => I (t + o)) m) y) (Lv I t) nF) w s (lastY I w s) → r = 0) (d : Nat) : ∃ J' W', xEx E ex (d + 9) yX10_makesKnownSo [.ref 0, .int c0, .int w] (SH, wB I 80 W, J, P) (some (.int r)) (SH, wB I 80 W', J', (xu P 80 0 (t + 1))) ∧ Jok J J' t := by
  refine Qt.use (x_enterq (d := d + 8) cqX10_makesKnownSo [some (.ref 0), some (.int c0), some (.int w), none, none] rfl (by simp [lg_sl, Value.category]) ?_)
  refine r_aload_n dX10_makesKnownSo_0 rfl ?_
  refine r_getR dX10_makesKnownSo_1 flX10_48 sh_0 (by decide) rfl (pf_0_10 hP) ?_
  refine r_aload_n dX10_makesKnownSo_4 rfl ?_
  refine r_getR dX10_makesKnownSo_5 flX10_38 sh_0 (by decide) rfl (pf_0_6 hP) ?_
  refine r_cV1v dX10_makesKnownSo_8 vlX10_119 (br_s _ hb80) (Nat.le_of_ble_eq_true rfl) (k_become (V := W) hP hb80 hb44 (by decide) ht hft (d + 7)) ?_
  have hP := hP.xb hb80 (t + 1); have hb8 : xu P 80 0 (t + 1) 80 0 = t + 1 := xu_s _ _ _ _; have hx5 : xu P 80 0 (t + 1) 0 5 = t + 1 := (xu_f _ _ (by decide)).trans hx5
  refine r_aload_n dX10_makesKnownSo_11 rfl ?_
  refine r_getR dX10_makesKnownSo_12 flX10_48 sh_0 (by decide) rfl (pf_0_10 hP) ?_
  refine r_iload_n dX10_makesKnownSo_15 rfl ?_
  refine r_aload_n dX10_makesKnownSo_16 rfl ?_
  refine r_getR dX10_makesKnownSo_17 flX10_29 sh_0 (by decide) rfl hx5 ?_
  refine r_getIv dX10_makesKnownSo_20 flX10_341 (tl_s _ ht) (by decide) rfl (wB_t0 _ hb80 _ ht _) ?_
  refine r_cV2v dX10_makesKnownSo_23 vlX10_346 (br_s _ hb80) (Nat.le_of_ble_eq_true rfl) (k_paintAlone hb80 c0 _ (d + 7)) ?_
  refine r_aload_n dX10_makesKnownSo_26 rfl ?_
  refine r_getR dX10_makesKnownSo_27 flX10_58 sh_0 (by decide) rfl (pf_0_14 hP) ?_
  refine r_iload_n dX10_makesKnownSo_30 rfl ?_
  refine r_cV1i dX10_makesKnownSo_31 vlX10_349 sh_93 (Nat.le_of_ble_eq_true rfl) (by have z := k_lastYearOf (E := E) (ex := ex) (I := wB I 80 (sPa (vB I 44) c0 (I t 9))) (J := J) hP hs ((o80 (by decide) _).trans h4) w (d + 7); rw [sLy_eq (fun k => o80 (by decide) k)] at z; exact z) ?_
  refine r_istore_n3 dX10_makesKnownSo_34 rfl ?_
  refine r_iconst (v := 0) dX10_makesKnownSo_35 (by decide) ?_
  refine r_istore4 dX10_makesKnownSo_36 rfl ?_
  exact l_makes hP ht hx5 hb8 (hvF.xu (by decide) (by decide) (by decide)) hL hm hc hg hs h4 w _ r (lastY_le I w s) h1 h0 c0 d 51 0 J (by omega) (Jok.rf J t) (fun y hy => absurd hy (Nat.not_lt_zero y))
noncomputable def sPd (M : Nat → Prop) : Nat → Int32
  | 0 => 0
  | c + 1 => @ite _ (M c) (Classical.propDecidable _) (sPd M c ||| (1 <<< (nI c &&& 31))) (sPd M c)
theorem sPd_t {M : Nat → Prop} {c : Nat} (h : M c) : sPd M (c + 1) = sPd M c ||| (1 <<< (nI c &&& 31)) := by rw [sPd, if_pos h]
theorem sPd_f {M : Nat → Prop} {c : Nat} (h : ¬ M c) : sPd M (c + 1) = sPd M c := by rw [sPd, if_neg h]
/-- the references, but for the trial's tale, as they were -/
def Pb (P P' : Nat → Nat → Nat) : Prop := ∀ a k, ¬ (a = 80 ∧ k = 0) → P' a k = P a k
theorem Pb.rf (P : Nat → Nat → Nat) : Pb P P := fun _ _ _ => rfl
theorem Pb.xt {P P' : Nat → Nat → Nat} (h : Pb P P') (v : Nat) : Pb P (xu P' 80 0 v) := fun a k q => by simp only [xu, if_neg q]; exact h a k q
theorem Pb.ok {P P' : Nat → Nat → Nat} (h : Pb P P') (hP : Pok P) : Pok P' := fun q hq => (h _ _ (br_r0 q hq 80 hb80)).trans (hP q hq)
theorem Pb.at {P P' : Nat → Nat → Nat} (h : Pb P P') {a k v : Nat} (hv : P a k = v) (ha : a ≠ 80) : P' a k = v := (h a k (fun q => ha q.1)).trans hv
def Qu (I : Nat → Nat → Int32) (J : Nat → Nat → Int64) (P : Nat → Nat → Nat) (t : Nat) (r : Option Value) : Option Value → xS → Prop := fun r1 S1 => r1 = r ∧ ∃ J' W' P', S1 = (SH, wB I 80 W', J', P') ∧ Jok J J' t ∧ Pb P P'
theorem Qu.mk {I W : Nat → Nat → Int32} {J : Nat → Nat → Int64} {P P' : Nat → Nat → Nat} {t : Nat} {r : Option Value} {J' : Nat → Nat → Int64} (h : Jok J J' t) (h2 : Pb P P') : Qu I J P t r r (SH, wB I 80 W, J', P') := ⟨rfl, J', W, P', rfl, h, h2⟩
theorem Qu.use {E : xCl} {ex : Bool} {d : Nat} {y : MethodName} {vs : List Value} {S : xS} {I : Nat → Nat → Int32} {J : Nat → Nat → Int64} {P : Nat → Nat → Nat} {t : Nat} {r : Option Value} (h : ∃ r1 S1, xEx E ex d y vs S r1 S1 ∧ Qu I J P t r r1 S1) : ∃ J' W' P', xEx E ex d y vs S r (SH, wB I 80 W', J', P') ∧ Jok J J' t ∧ Pb P P' := by
  obtain ⟨r1, S1, h1, h2, J', W', P', h3, h4, h5⟩ := h
  subst h2; subst h3
  exact ⟨J', W', P', h1, h4, h5⟩
set_option maxHeartbeats 2000000 in
theorem l_painted {E : xCl} {ex : Bool} {I : Nat → Nat → Int32} {J : Nat → Nat → Int64} {P : Nat → Nat → Nat} (hP : Pok P) {t : Nat} (ht : t ∈ TL) (hx5 : P 0 5 = t + 1) (hft : P 44 0 = t + 1) {nF : Nat} (hvF : Vok (vB I 44) nF) (hL : Lok I t) {m : Nat} (hm : m ≤ 8) (hc : I t 7 = nI m) (hg : ∀ k, vp_in (I (t + 4) k) 6) {s : Nat} (hs : s ≤ 24) (h4 : I 93 4 = nI s) {q9 : Nat} (hq9 : q9 ≤ 10) (h9 : I t 9 = nI q9) (w : Int32) (d : Nat) : ∀ c j J1 W1 P1, j + c = q9 + 1 → Jok J J1 t → Pb P P1 → xR (xEx E ex (d + 9)) ex none yX10_painted cX10_painted (some .int) 12 [some (.ref 0), some (.int w), some (.int (sPd (fun c => sMk I (fun y => sBr ((sYr (sPa (vB I 44) (nI c) (I t 9)) (Lv I t) nF (fun o => I (t + o)) m) y) (Lv I t) nF) w s (lastY I w s)) j)), some (.int (nI j))] [] (SH, wB I 80 W1, J1, P1) (Qu I J P t (some (.int (sPd (fun c => sMk I (fun y => sBr ((sYr (sPa (vB I 44) (nI c) (I t 9)) (Lv I t) nF (fun o => I (t + o)) m) y) (Lv I t) nF) w s (lastY I w s)) (q9 + 1))))) := by
  intro c
  induction c with
  | zero =>
    intro j J1 W1 P1 hj hJ hb1
    refine r_iload_n dX10_painted_12 rfl ?_
    refine r_aload_n dX10_painted_13 rfl ?_
    refine r_getR dX10_painted_14 flX10_29 sh_0 (by decide) rfl (hb1.at hx5 (by decide)) ?_
    refine r_getIv dX10_painted_17 flX10_341 (tl_s _ ht) (by decide) rfl ((wB_t0 _ hb80 _ ht _).trans h9) ?_
    refine r_ic_gt 44 dX10_painted_20 (by decide) (fun c20 => ?_) (fun c20 => ?_)
    · refine r_iload_n dX10_painted_44 rfl ?_
      exact r_iretq dX10_painted_45 rfl rfl (by rw [show j = q9 + 1 by omega]; exact Qu.mk hJ hb1)
    · exact absurd (nI_lt (by omega) (by omega)) c20
  | succ c ih =>
    intro j J1 W1 P1 hj hJ hb1
    refine r_iload_n dX10_painted_12 rfl ?_
    refine r_aload_n dX10_painted_13 rfl ?_
    refine r_getR dX10_painted_14 flX10_29 sh_0 (by decide) rfl (hb1.at hx5 (by decide)) ?_
    refine r_getIv dX10_painted_17 flX10_341 (tl_s _ ht) (by decide) rfl ((wB_t0 _ hb80 _ ht _).trans h9) ?_
    refine r_ic_gt 44 dX10_painted_20 (by decide) (fun c20 => ?_) (fun c20 => ?_)
    · exact absurd c20 (nI_nlt (by omega) (by omega))
    · refine r_aload_n dX10_painted_23 rfl ?_
      refine r_iload_n dX10_painted_24 rfl ?_
      refine r_iload_n dX10_painted_25 rfl ?_
      by_cases ha : (fun c => sMk I (fun y => sBr ((sYr (sPa (vB I 44) (nI c) (I t 9)) (Lv I t) nF (fun o => I (t + o)) m) y) (Lv I t) nF) w s (lastY I w s)) j
      · obtain ⟨J26, W26, hx26, hj26⟩ := k_makes (E := E) (ex := ex) (W := W1) (J := J1) (hb1.ok hP) ht (hb1.at hx5 (by decide)) (hb1.at hft (by decide)) hvF hL hm hc hg hs h4 (nI j) w 1 (fun _ => rfl) (fun q => absurd ha q) d
        refine r_cV2i dX10_painted_26 vlX10_342 sh_0 (Nat.le_of_ble_eq_true rfl) hx26 ?_
        refine r_if_eq 38 dX10_painted_29 (by decide) (fun c29 => ?_) (fun c29 => ?_)
        · exact absurd c29 (by decide)
        · refine r_iload_n dX10_painted_32 rfl ?_
          refine r_iconst (v := 1) dX10_painted_33 (by decide) ?_
          refine r_iload_n dX10_painted_34 rfl ?_
          refine r_ishl dX10_painted_35 ?_
          refine r_ior dX10_painted_36 ?_
          refine r_istore_n2 dX10_painted_37 rfl ?_
          refine r_iinc3 (v := 1) dX10_painted_38 (by decide) rfl ?_
          refine r_goto 12 dX10_painted_41 (by decide) ?_
          rw [nI_1]; rw [← sPd_t ha]; exact ih (j + 1) _ _ _ (by omega) (hJ.tr hj26) (hb1.xt _)
      · obtain ⟨J26, W26, hx26, hj26⟩ := k_makes (E := E) (ex := ex) (W := W1) (J := J1) (hb1.ok hP) ht (hb1.at hx5 (by decide)) (hb1.at hft (by decide)) hvF hL hm hc hg hs h4 (nI j) w 0 (fun q => absurd q ha) (fun _ => rfl) d
        refine r_cV2i dX10_painted_26 vlX10_342 sh_0 (Nat.le_of_ble_eq_true rfl) hx26 ?_
        refine r_if_eq 38 dX10_painted_29 (by decide) (fun c29 => ?_) (fun c29 => ?_)
        · refine r_iinc3 (v := 1) dX10_painted_38 (by decide) rfl ?_
          refine r_goto 12 dX10_painted_41 (by decide) ?_
          rw [nI_1]; rw [← sPd_f ha]; exact ih (j + 1) _ _ _ (by omega) (hJ.tr hj26) (hb1.xt _)
        · exact absurd c29 (by decide)
set_option maxHeartbeats 2000000 in
theorem k_painted {E : xCl} {ex : Bool} {I W : Nat → Nat → Int32} {J : Nat → Nat → Int64} {P : Nat → Nat → Nat} (hP : Pok P) {t : Nat} (ht : t ∈ TL) (hx5 : P 0 5 = t + 1) (hft : P 44 0 = t + 1) {nF : Nat} (hvF : Vok (vB I 44) nF) (hL : Lok I t) {m : Nat} (hm : m ≤ 8) (hc : I t 7 = nI m) (hg : ∀ k, vp_in (I (t + 4) k) 6) {s : Nat} (hs : s ≤ 24) (h4 : I 93 4 = nI s) {q9 : Nat} (hq9 : q9 ≤ 10) (h9 : I t 9 = nI q9) {q : Nat} (hq : q ≤ 24) (hk : sKs I = nI q) (d : Nat) : ∃ J' W' P', xEx E ex (d + 10) yX10_painted [.ref 0] (SH, wB I 80 W, J, P) (some (.int (sPd (fun c => sMk I (fun y => sBr ((sYr (sPa (vB I 44) (nI c) (I t 9)) (Lv I t) nF (fun o => I (t + o)) m) y) (Lv I t) nF) (sKb I q 0 0) s (lastY I (sKb I q 0 0) s)) (q9 + 1)))) (SH, wB I 80 W', J', P') ∧ Jok J J' t ∧ Pb P P' := by
  refine Qu.use (x_enterq (d := d + 9) cqX10_painted [some (.ref 0), none, none, none] rfl (by simp [lg_sl, Value.category]) ?_)
  refine r_aload_n dX10_painted_0 rfl ?_
  refine r_getR dX10_painted_1 flX10_58 sh_0 (by decide) rfl (pf_0_14 hP) ?_
  refine r_cV0i dX10_painted_4 vlX10_338 sh_93 (Nat.le_of_ble_eq_true rfl) (by have z := k_knownBits (E := E) (ex := ex) (I := wB I 80 W) (J := J) hP hq ((by unfold sKs; rw [o80 (by decide), o80 (by decide)] : sKs (wB I 80 W) = sKs I).trans hk) (d + 7); rw [sKb_eq (fun k => o80 (by decide) k) (fun k => o80 (by decide) k)] at z; exact z) ?_
  refine r_istore_n1 dX10_painted_7 rfl ?_
  refine r_iconst (v := 0) dX10_painted_8 (by decide) ?_
  refine r_istore_n2 dX10_painted_9 rfl ?_
  refine r_iconst (v := 0) dX10_painted_10 (by decide) ?_
  refine r_istore_n3 dX10_painted_11 rfl ?_
  exact l_painted hP ht hx5 hft hvF hL hm hc hg hs h4 hq9 h9 _ d (q9 + 1) 0 J W P (by omega) (Jok.rf J t) (Pb.rf P)
