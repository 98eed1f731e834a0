/-! what is tried on the trial: the numbers are wB I 80 W, W the trial's view; N = vB I 56 what is now -/
theorem st80 (I W : Nat → Nat → Int32) : wB (wB I 80 W) 56 (vB I 56) = wB I 80 W := by
  rw [← vB_o I W hb80 hb56 (by decide), wB_vB]
/-- the end of a method that leaves anything in the trial -/
def Qt (I : Nat → Nat → Int32) (J : Nat → Nat → Int64) (P : Nat → Nat → Nat) (t : Nat) (r : Option Value) : Option Value → xS → Prop := fun r1 S1 => r1 = r ∧ ∃ J' W', S1 = (SH, wB I 80 W', J', P) ∧ Jok J J' t
theorem Qt.mk {I W : Nat → Nat → Int32} {J : Nat → Nat → Int64} {P : Nat → Nat → Nat} {t : Nat} {r : Option Value} {J' : Nat → Nat → Int64} (h : Jok J J' t) : Qt I J P t r r (SH, wB I 80 W, J', P) := ⟨rfl, J', W, rfl, h⟩
theorem Qt.use {E : xCl} {ex : Bool} {d : Nat} {y : MethodName} {vs : List Value} {S : xS} {I : Nat → Nat → Int32} {J : Nat → Nat → Int64} {P : Nat → Nat → Nat} {t : Nat} {r : Option Value} (h : ∃ r1 S1, xEx E ex d y vs S r1 S1 ∧ Qt I J P t r r1 S1) : ∃ J' W', xEx E ex d y vs S r (SH, wB I 80 W', J', P) ∧ Jok J J' t := by
  obtain ⟨r1, S1, h1, h2, J', W', h3, h4⟩ := h
  subst h2; subst h3
  exact ⟨J', W', h1, h4⟩
def sLf (Y : Nat → Nat → Nat → Int32) (s : Int32) : Nat → Nat → Int32
  | 0, j => nI j
  | c + 1, j => if sTh (Y j) s then sLf Y s c (j + 1) else nI j
set_option maxHeartbeats 2000000 in
theorem l_life {E : xCl} {ex : Bool} {I : Nat → Nat → Int32} {J : Nat → Nat → Int64} {P : Nat → Nat → Nat} (hP : Pok P) {t : Nat} (ht : t ∈ TL) (hx5 : P 0 5 = t + 1) (hb8 : P 80 0 = t + 1) {n : Nat} (hv : Vok (vB I 56) n) (hL : Lok I t) {m : Nat} (hm : m ≤ 8) (hc : I t 7 = nI m) (hg : ∀ k, vp_in (I (t + 4) k) 6) (s : Int32) (d : Nat) : ∀ c j J1, j + c = 99 → Jok J J1 t → xR (xEx E ex (d + 8)) ex none yX10_life cX10_life (some .int) 28 [some (.ref 0), some (.int s), some (.int (nI j)), some (.int (nI j))] [] (SH, wB I 80 (sYr (vB I 56) (Lv I t) n (fun o => I (t + o)) m j), J1, P) (Qt I J P t (some (.int (sLf (sYr (vB I 56) (Lv I t) n (fun o => I (t + o)) m) s c j)))) := by
  intro c
  induction c with
  | zero =>
    intro j J1 hj hJ
    refine r_iload_n dX10_life_28 rfl ?_
    refine r_bipush (v := 99) dX10_life_29 (by decide) ?_
    refine r_ic_ge 63 dX10_life_31 (by decide) (fun c31 => ?_) (fun c31 => ?_)
    · refine r_iload_n dX10_life_63 rfl ?_
      exact r_iretq dX10_life_64 rfl rfl (Qt.mk hJ)
    · exact absurd (by rw [show j = 99 by omega]; decide) c31
  | succ c ih =>
    intro j J1 hj hJ
    refine r_iload_n dX10_life_28 rfl ?_
    refine r_bipush (v := 99) dX10_life_29 (by decide) ?_
    refine r_ic_ge 63 dX10_life_31 (by decide) (fun c31 => ?_) (fun c31 => ?_)
    · exact absurd c31 (nI_ge (a := j) (b := 99) (by omega) (by omega))
    · refine r_aload_n dX10_life_34 rfl ?_
      refine r_getR dX10_life_35 flX10_48 sh_0 (by decide) rfl (pf_0_10 hP) ?_
      refine r_iload_n dX10_life_38 rfl ?_
      by_cases h39 : sTh (sYr (vB I 56) (Lv I t) n (fun o => I (t + o)) m j) s
      · refine r_cV1i dX10_life_39 vlX10_220 (br_s _ hb80) (Nat.le_of_ble_eq_true rfl) (k_isThere_t hP hb80 h39 (d + 6)) ?_
        refine r_if_eq 63 dX10_life_42 (by decide) (fun c42 => ?_) (fun c42 => ?_)
        · exact absurd c42 (by decide)
        · refine r_aload_n dX10_life_45 rfl ?_
          refine r_getR dX10_life_46 flX10_48 sh_0 (by decide) rfl (pf_0_10 hP) ?_
          refine r_iconst (v := (-1)) dX10_life_49 (by decide) ?_
          obtain ⟨J50, hx50, hj50⟩ := k_goYear (E := E) (ex := ex) (V := sYr (vB I 56) (Lv I t) n (fun o => I (t + o)) m j) (J := J1) hP hb80 ht hb8 (hv.yr (Lv I t) (fun o => I (t + o)) m j) hL hm hc hg (-1) (d)
          refine r_cV1i dX10_life_50 vlX10_276 (br_s _ hb80) (Nat.le_of_ble_eq_true rfl) hx50 ?_
          refine r_pop dX10_life_53 rfl ?_
          refine r_iinc2 (v := 1) dX10_life_54 (by decide) rfl ?_
          refine r_iinc3 (v := 1) dX10_life_57 (by decide) rfl ?_
          refine r_goto 28 dX10_life_60 (by decide) ?_
          rw [nI_1]; rw [sLf, if_pos h39]; exact ih (j + 1) _ (by omega) (hJ.tr hj50)
      · refine r_cV1i dX10_life_39 vlX10_220 (br_s _ hb80) (Nat.le_of_ble_eq_true rfl) (k_isThere_f hP hb80 h39 (d + 6)) ?_
        refine r_if_eq 63 dX10_life_42 (by decide) (fun c42 => ?_) (fun c42 => ?_)
        · refine r_iload_n dX10_life_63 rfl ?_
          exact r_iretq dX10_life_64 rfl rfl (by rw [sLf, if_neg h39]; exact Qt.mk hJ)
        · exact absurd c42 (by decide)
set_option maxHeartbeats 1000000 in
theorem k_life_n {E : xCl} {ex : Bool} {I W : Nat → Nat → Int32} {J : Nat → Nat → Int64} {P : Nat → Nat → Nat} (hP : Pok P) {t : Nat} (ht : t ∈ TL) (hx5 : P 0 5 = t + 1) (hbt : P 56 0 = t + 1) {s : Int32} (h : ¬ sSt (vB I 56) s) (d : Nat) : xEx E ex (d + 2) yX10_life [.ref 0, .int s] (SH, wB I 80 W, J, P) (some (.int (-1))) (SH, wB I 80 W, J, P) := by
  refine x_enter cqX10_life [some (.ref 0), some (.int s), none, none] rfl (by simp [lg_sl, Value.category]) ?_
  refine r_aload_n dX10_life_0 rfl ?_
  refine r_getR dX10_life_1 flX10_42 sh_0 (by decide) rfl (pf_0_7 hP) ?_
  refine r_iload_n dX10_life_4 rfl ?_
  refine r_cV1i dX10_life_5 vlX10_172 (br_s _ hb56) (Nat.le_of_ble_eq_true rfl) (by have z := k_isStrand_f (E := E) (ex := ex) (I := wB I 80 W) (J := J) (P := P) hb56 h (d + 0); rw [st80] at z; exact z) ?_
  refine r_if_ne 13 dX10_life_8 (by decide) (fun c8 => ?_) (fun c8 => ?_)
  · exact absurd c8 (by decide)
  · refine r_iconst (v := (-1)) dX10_life_11 (by decide) ?_
    exact r_iret dX10_life_12 rfl rfl rfl rfl
set_option maxHeartbeats 2000000 in
theorem k_life {E : xCl} {ex : Bool} {I W : Nat → Nat → Int32} {J : Nat → Nat → Int64} {P : Nat → Nat → Nat} (hP : Pok P) {t : Nat} (ht : t ∈ TL) (hx5 : P 0 5 = t + 1) (hbt : P 56 0 = t + 1) {n : Nat} (hv : Vok (vB I 56) n) (hL : Lok I t) {m : Nat} (hm : m ≤ 8) (hc : I t 7 = nI m) (hg : ∀ k, vp_in (I (t + 4) k) 6) {s : Int32} (h : sSt (vB I 56) s) (d : Nat) : ∃ J' W', xEx E ex (d + 9) yX10_life [.ref 0, .int s] (SH, wB I 80 W, J, P) (some (.int (sLf (sYr (vB I 56) (Lv I t) n (fun o => I (t + o)) m) s 99 0))) (SH, wB I 80 W', J', (xu P 80 0 (t + 1))) ∧ Jok J J' t := by
  refine Qt.use (x_enterq (d := d + 8) cqX10_life [some (.ref 0), some (.int s), none, none] rfl (by simp [lg_sl, Value.category]) ?_)
  refine r_aload_n dX10_life_0 rfl ?_
  refine r_getR dX10_life_1 flX10_42 sh_0 (by decide) rfl (pf_0_7 hP) ?_
  refine r_iload_n dX10_life_4 rfl ?_
  refine r_cV1i dX10_life_5 vlX10_172 (br_s _ hb56) (Nat.le_of_ble_eq_true rfl) (by have z := k_isStrand_t (E := E) (ex := ex) (I := wB I 80 W) (J := J) (P := P) hb56 h (d + 7); rw [st80] at z; exact z) ?_
  refine r_if_ne 13 dX10_life_8 (by decide) (fun c8 => ?_) (fun c8 => ?_)
  · refine r_aload_n dX10_life_13 rfl ?_
    refine r_getR dX10_life_14 flX10_48 sh_0 (by decide) rfl (pf_0_10 hP) ?_
    refine r_aload_n dX10_life_17 rfl ?_
    refine r_getR dX10_life_18 flX10_42 sh_0 (by decide) rfl (pf_0_7 hP) ?_
    refine r_cV1v dX10_life_21 vlX10_119 (br_s _ hb80) (Nat.le_of_ble_eq_true rfl) (k_become (V := W) hP hb80 hb56 (by decide) ht hbt (d + 7)) ?_
    have hP := hP.xb hb80 (t + 1); have hb8 : xu P 80 0 (t + 1) 80 0 = t + 1 := xu_s _ _ _ _; have hx5 : xu P 80 0 (t + 1) 0 5 = t + 1 := (xu_f _ _ (by decide)).trans hx5
    refine r_iconst (v := 0) dX10_life_24 (by decide) ?_
    refine r_istore_n2 dX10_life_25 rfl ?_
    refine r_iconst (v := 0) dX10_life_26 (by decide) ?_
    refine r_istore_n3 dX10_life_27 rfl ?_
    exact l_life hP ht hx5 hb8 hv hL hm hc hg s d 99 0 J (by omega) (Jok.rf J t)
  · exact absurd c8 (by decide)
def sAd (F : Nat → Int32) : Nat → Nat → Int32 → Int32
  | 0, _, r => r
  | c + 1, j, r => if r = -1 then sAd F c (j + 1) (F j) else r
set_option maxHeartbeats 2000000 in
theorem l_ahead {E : xCl} {ex : Bool} {I : Nat → Nat → Int32} {J : Nat → Nat → Int64} {P : Nat → Nat → Nat} (hP : Pok P) {t : Nat} (ht : t ∈ TL) (hx5 : P 0 5 = t + 1) (hb8 : P 80 0 = t + 1) {n : Nat} (hv : Vok (vB I 56) n) (hL : Lok I t) {m : Nat} (hm : m ≤ 8) (hc : I t 7 = nI m) (hg : ∀ k, vp_in (I (t + 4) k) 6) {k : Nat} (hk : k ≤ 99) (d : Nat) : ∀ c j r J1, j + c = k → Jok J J1 t → xR (xEx E ex (d + 8)) ex none yX10_ahead cX10_ahead (some .int) 27 [some (.ref 0), some (.int (nI k)), some (.int r), some (.int (nI j))] [] (SH, wB I 80 (sYr (vB I 56) (Lv I t) n (fun o => I (t + o)) m j), J1, P) (Qt I J P t (some (.int (if sAd (fun j => sRf (sYr (vB I 56) (Lv I t) n (fun o => I (t + o)) m j) (Lv I t) n (fun o => I (t + o)) m) c j r = -1 then -2 else sAd (fun j => sRf (sYr (vB I 56) (Lv I t) n (fun o => I (t + o)) m j) (Lv I t) n (fun o => I (t + o)) m) c j r)))) := by
  intro c
  induction c with
  | zero =>
    intro j r J1 hj hJ
    refine r_iload_n dX10_ahead_27 rfl ?_
    refine r_iload_n dX10_ahead_28 rfl ?_
    refine r_ic_ge 52 dX10_ahead_29 (by decide) (fun c29 => ?_) (fun c29 => ?_)
    · refine r_iload_n dX10_ahead_52 rfl ?_
      refine r_iconst (v := (-1)) dX10_ahead_53 (by decide) ?_
      refine r_ic_ne 62 dX10_ahead_54 (by decide) (fun c54 => ?_) (fun c54 => ?_)
      · refine r_iload_n dX10_ahead_62 rfl ?_
        exact r_iretq dX10_ahead_63 rfl rfl (by rw [sAd, if_neg c54]; exact Qt.mk hJ)
      · refine r_bipush (v := (-2)) dX10_ahead_57 (by decide) ?_
        refine r_goto 63 dX10_ahead_59 (by decide) ?_
        exact r_iretq dX10_ahead_63 rfl rfl (by rw [sAd, if_pos c54]; exact Qt.mk hJ)
    · exact absurd (nI_le (by omega) (by omega)) c29
  | succ c ih =>
    intro j r J1 hj hJ
    refine r_iload_n dX10_ahead_27 rfl ?_
    refine r_iload_n dX10_ahead_28 rfl ?_
    refine r_ic_ge 52 dX10_ahead_29 (by decide) (fun c29 => ?_) (fun c29 => ?_)
    · exact absurd c29 (nI_ge (by omega) (by omega))
    · refine r_iload_n dX10_ahead_32 rfl ?_
      refine r_iconst (v := (-1)) dX10_ahead_33 (by decide) ?_
      refine r_ic_ne 52 dX10_ahead_34 (by decide) (fun c34 => ?_) (fun c34 => ?_)
      · refine r_iload_n dX10_ahead_52 rfl ?_
        refine r_iconst (v := (-1)) dX10_ahead_53 (by decide) ?_
        refine r_ic_ne 62 dX10_ahead_54 (by decide) (fun c54 => ?_) (fun c54 => ?_)
        · refine r_iload_n dX10_ahead_62 rfl ?_
          exact r_iretq dX10_ahead_63 rfl rfl (by rw [sAd, if_neg c34, if_neg c54]; exact Qt.mk hJ)
        · refine r_bipush (v := (-2)) dX10_ahead_57 (by decide) ?_
          refine r_goto 63 dX10_ahead_59 (by decide) ?_
          exact r_iretq dX10_ahead_63 rfl rfl (by rw [sAd, if_neg c34, if_pos c54]; exact Qt.mk hJ)
      · refine r_aload_n dX10_ahead_37 rfl ?_
        refine r_getR dX10_ahead_38 flX10_48 sh_0 (by decide) rfl (pf_0_10 hP) ?_
        refine r_iconst (v := (-1)) dX10_ahead_41 (by decide) ?_
        obtain ⟨J42, hx42, hj42⟩ := k_goYear (E := E) (ex := ex) (V := sYr (vB I 56) (Lv I t) n (fun o => I (t + o)) m j) (J := J1) hP hb80 ht hb8 (hv.yr (Lv I t) (fun o => I (t + o)) m j) hL hm hc hg (-1) (d)
        refine r_cV1i dX10_ahead_42 vlX10_276 (br_s _ hb80) (Nat.le_of_ble_eq_true rfl) hx42 ?_
        refine r_istore_n2 dX10_ahead_45 rfl ?_
        refine r_iinc3 (v := 1) dX10_ahead_46 (by decide) rfl ?_
        refine r_goto 27 dX10_ahead_49 (by decide) ?_
        rw [nI_1]; rw [sAd, if_pos c34]; exact ih (j + 1) _ _ (by omega) (hJ.tr hj42)
set_option maxHeartbeats 1000000 in
theorem k_ahead_n {E : xCl} {ex : Bool} {I W : Nat → Nat → Int32} {J : Nat → Nat → Int64} {P : Nat → Nat → Nat} {x : Int32} (h : ¬ (¬ x < 0 ∧ x ≤ 99)) (d : Nat) : xEx E ex (d + 1) yX10_ahead [.ref 0, .int x] (SH, wB I 80 W, J, P) (some (.int (-1))) (SH, wB I 80 W, J, P) := by
  refine x_enter cqX10_ahead [some (.ref 0), some (.int x), none, none] rfl (by simp [lg_sl, Value.category]) ?_
  refine r_iload_n dX10_ahead_0 rfl ?_
  refine r_if_lt 10 dX10_ahead_1 (by decide) (fun c1 => ?_) (fun c1 => ?_)
  · refine r_iconst (v := (-1)) dX10_ahead_10 (by decide) ?_
    exact r_iret dX10_ahead_11 rfl rfl rfl rfl
  · refine r_iload_n dX10_ahead_4 rfl ?_
    refine r_bipush (v := 99) dX10_ahead_5 (by decide) ?_
    refine r_ic_le 12 dX10_ahead_7 (by decide) (fun c7 => ?_) (fun c7 => ?_)
    · exact absurd ⟨c1, c7⟩ h
    · refine r_iconst (v := (-1)) dX10_ahead_10 (by decide) ?_
      exact r_iret dX10_ahead_11 rfl rfl rfl rfl
set_option maxHeartbeats 2000000 in
theorem k_ahead {E : xCl} {ex : Bool} {I W : Nat → Nat → Int32} {J : Nat → Nat → Int64} {P : Nat → Nat → Nat} (hP : Pok P) {t : Nat} (ht : t ∈ TL) (hx5 : P 0 5 = t + 1) (hbt : P 56 0 = t + 1) {n : Nat} (hv : Vok (vB I 56) n) (hL : Lok I t) {m : Nat} (hm : m ≤ 8) (hc : I t 7 = nI m) (hg : ∀ k, vp_in (I (t + 4) k) 6) {k : Nat} (hk : k ≤ 99) (d : Nat) : ∃ J' W', xEx E ex (d + 9) yX10_ahead [.ref 0, .int (nI k)] (SH, wB I 80 W, J, P) (some (.int (if sAd (fun j => sRf (sYr (vB I 56) (Lv I t) n (fun o => I (t + o)) m j) (Lv I t) n (fun o => I (t + o)) m) k 0 (-1) = -1 then -2 else sAd (fun j => sRf (sYr (vB I 56) (Lv I t) n (fun o => I (t + o)) m j) (Lv I t) n (fun o => I (t + o)) m) k 0 (-1)))) (SH, wB I 80 W', J', (xu P 80 0 (t + 1))) ∧ Jok J J' t := by
  refine Qt.use (x_enterq (d := d + 8) cqX10_ahead [some (.ref 0), some (.int (nI k)), none, none] rfl (by simp [lg_sl, Value.category]) ?_)
  refine r_iload_n dX10_ahead_0 rfl ?_
  refine r_if_lt 10 dX10_ahead_1 (by decide) (fun c1 => ?_) (fun c1 => ?_)
  · exact absurd c1 (nI_pos (by omega))
  · refine r_iload_n dX10_ahead_4 rfl ?_
    refine r_bipush (v := 99) dX10_ahead_5 (by decide) ?_
    refine r_ic_le 12 dX10_ahead_7 (by decide) (fun c7 => ?_) (fun c7 => ?_)
    · refine r_aload_n dX10_ahead_12 rfl ?_
      refine r_getR dX10_ahead_13 flX10_48 sh_0 (by decide) rfl (pf_0_10 hP) ?_
      refine r_aload_n dX10_ahead_16 rfl ?_
      refine r_getR dX10_ahead_17 flX10_42 sh_0 (by decide) rfl (pf_0_7 hP) ?_
      refine r_cV1v dX10_ahead_20 vlX10_119 (br_s _ hb80) (Nat.le_of_ble_eq_true rfl) (k_become (V := W) hP hb80 hb56 (by decide) ht hbt (d + 7)) ?_
      have hP := hP.xb hb80 (t + 1); have hb8 : xu P 80 0 (t + 1) 80 0 = t + 1 := xu_s _ _ _ _; have hx5 : xu P 80 0 (t + 1) 0 5 = t + 1 := (xu_f _ _ (by decide)).trans hx5
      refine r_iconst (v := (-1)) dX10_ahead_23 (by decide) ?_
      refine r_istore_n2 dX10_ahead_24 rfl ?_
      refine r_iconst (v := 0) dX10_ahead_25 (by decide) ?_
      refine r_istore_n3 dX10_ahead_26 rfl ?_
      exact l_ahead hP ht hx5 hb8 hv hL hm hc hg hk d k 0 (-1) J (by omega) (Jok.rf J t)
    · exact absurd (nI_le (a := k) (b := 99) hk (by omega)) c7
