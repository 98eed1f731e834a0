/-! what the bridge bears, and years: over a view V and laws Lw (the long's least number: not told, or an ERROR) -/
theorem wPl_eq {N N' : Nat → Int64} (h : ∀ q, q < 7 → N q = N' q) (c : Int32) : wPl N c = wPl N' c := by
  unfold wPl
  split
  · split
    · rfl
    · rename_i h1
      split
      · rfl
      · rename_i h2
        refine h _ ?_
        have h3 : vp_in (c - 10000 - 13) 7 := vin h1 h2 (by decide)
        exact Nat.not_le.mp (fun q => h3 (Or.inr q))
  · rfl
theorem wSt_eq {N N' : Nat → Int64} (h : ∀ q, q < 7 → N q = N' q) (c : Int32) (l : List Int64) : wSt N c l = wSt N' c l := by
  unfold wSt
  rw [wPl_eq h c]
theorem wRun_eq {N N' : Nat → Int64} (h : ∀ q, q < 7 → N q = N' q) (kn : Nat → Int32) : ∀ (c p : Nat) (l : List Int64), wRun kn N c p l = wRun kn N' c p l
  | 0, _, _ => rfl
  | c + 1, p, l => by
    unfold wRun
    rw [wSt_eq h]
    cases wSt N' (kn p) l with
    | none => rfl
    | some l' => exact wRun_eq h kn c (p + 1) l'
theorem Lv_eq {N N' : Nat → Int64} (h : ∀ q, q < 7 → N q = N' q) (I : Nat → Nat → Int32) (t k : Nat) : Lv I t k N = Lv I t k N' := by
  unfold Lv
  rw [wRun_eq h]
theorem wN_at (J : Nat → Nat → Int64) (t : Nat) (N : Nat → Int64) : ∀ q, q < 7 → wN J t N (t + 11) q = N q := fun q h => by simp [wN, h]
theorem Lv_wB (I : Nat → Nat → Int32) {b : Nat} (hb : b ∈ BR) (V : Nat → Nat → Int32) {t : Nat} (ht : t ∈ TL) (k : Nat) (N : Nat → Int64) : Lv (wB I b V) t k N = Lv I t k N := by
  unfold Lv
  rw [wB_t I hb V ht (by decide), wB_t I hb V ht (by decide), show wB I b V (t + 8) = I (t + 8) from funext (fun q => wB_t I hb V ht (by decide) q)]
theorem LwOk_wB {I : Nat → Nat → Int32} {b : Nat} (hb : b ∈ BR) (V : Nat → Nat → Int32) {t : Nat} (ht : t ∈ TL) {k : Nat} (h : LwOk I t k) : LwOk (wB I b V) t k := by
  unfold LwOk
  rw [wB_t I hb V ht (by decide), wB_t I hb V ht (by decide)]
  exact h
def Jok (J J' : Nat → Nat → Int64) (t : Nat) : Prop := ∀ a k, a ≠ t + 11 → a ≠ t + 12 → J' a k = J a k
theorem Jok.rf (J : Nat → Nat → Int64) (t : Nat) : Jok J J t := fun _ _ _ _ => rfl
theorem Jok.tr {J J1 J2 : Nat → Nat → Int64} {t : Nat} (h1 : Jok J J1 t) (h2 : Jok J1 J2 t) : Jok J J2 t := fun a k h h' => (h2 a k h h').trans (h1 a k h h')
theorem Jok.n (J : Nat → Nat → Int64) (t : Nat) (N : Nat → Int64) : Jok J (wN J t N) t := fun a k h _ => by simp [wN, h]
theorem Jbut.ok {J J' : Nat → Nat → Int64} {t : Nat} (h : Jbut J J' t) : Jok J J' t := fun a k _ h2 => h a k h2
/-- the end of a method that leaves the numbers I' and changes of the longs only names and stack of the laws of t -/
def Qj (I' : Nat → Nat → Int32) (J : Nat → Nat → Int64) (P : Nat → Nat → Nat) (t : Nat) (r : Option Value) : Option Value → xS → Prop := fun r1 S1 => r1 = r ∧ ∃ J', S1 = (SH, I', J', P) ∧ Jok J J' t
theorem Qj.mk {I' : Nat → Nat → Int32} {J : Nat → Nat → Int64} {P : Nat → Nat → Nat} {t : Nat} {r : Option Value} {J' : Nat → Nat → Int64} (h : Jok J J' t) : Qj I' J P t r r (SH, I', J', P) := ⟨rfl, J', rfl, h⟩
theorem Qj.use {E : xCl} {ex : Bool} {d : Nat} {y : MethodName} {vs : List Value} {S : xS} {I' : Nat → Nat → Int32} {J : Nat → Nat → Int64} {P : Nat → Nat → Nat} {t : Nat} {r : Option Value} (h : ∃ r1 S1, xEx E ex d y vs S r1 S1 ∧ Qj I' J P t r r1 S1) : ∃ J', xEx E ex d y vs S r (SH, I', J', P) ∧ Jok J J' t := by
  obtain ⟨r1, S1, h1, h2, J', h3, h4⟩ := h
  subst h2; subst h3
  exact ⟨J', h1, h4⟩
/-- all three laws stand -/
def Lok (I : Nat → Nat → Int32) (t : Nat) : Prop := LwOk I t 0 ∧ LwOk I t 1 ∧ LwOk I t 2
def sAl (V : Nat → Nat → Int32) (Lw : Nat → (Nat → Int64) → Int64) (i two : Int32) : Int32 := if ¬ sTh V i ∨ (V 12 0 >>> (i &&& 31)) &&& 1 = 1 then 0 else sWl (Lw 0 (sNm V i two)) 9999 (V 5 i.toNatClampNeg - V 5 i.toNatClampNeg * V 6 i.toNatClampNeg / 100)
theorem k_law {E : xCl} {ex : Bool} {I : Nat → Nat → Int32} {J : Nat → Nat → Int64} {P : Nat → Nat → Nat} (hP : Pok P) {b : Nat} (hb : b ∈ BR) (V : Nat → Nat → Int32) {t : Nat} (ht : t ∈ TL) (N : Nat → Int64) {lw : Int32} (hk3 : vp_in lw 3) (hok : LwOk I t lw.toNatClampNeg) (d : Nat) : ∃ J', xEx E ex (d + 2) yX2_work [.ref (t + 7), .int lw] (SH, wB I b V, wN J t N, P) (some (.long (Lv I t lw.toNatClampNeg N))) (SH, wB I b V, J', P) ∧ Jok J J' t := by
  obtain ⟨J', h1, h2⟩ := k_work (E := E) (ex := ex) (I := wB I b V) (J := wN J t N) hP ht hk3 (LwOk_wB hb V ht hok) d
  rw [Lv_wB I hb V ht, Lv_eq (wN_at J t N)] at h1
  exact ⟨J', h1, (Jok.n J t N).tr h2.ok⟩

set_option maxHeartbeats 1000000 in
theorem k_alone {E : xCl} {ex : Bool} {I V : Nat → Nat → Int32} {J : Nat → Nat → Int64} {P : Nat → Nat → Nat} (hP : Pok P) {b : Nat} (hb : b ∈ BR) {t : Nat} (ht : t ∈ TL) (hbt : P b 0 = t + 1) {n : Nat} (hv : Vok V n) (hL : Lok I t) (i two : Int32) (d : Nat) : ∃ J', xEx E ex (d + 5) yX0_alone [.ref b, .int i, .int two] (SH, wB I b V, J, P) (some (.int (sAl V (Lv I t) i two))) (SH, wB I b V, J', P) ∧ Jok J J' t := by
  refine Qj.use (x_enterq (d := d + 4) cqX0_alone [some (.ref b), some (.int i), some (.int two)] rfl (by simp [lg_sl, Value.category]) ?_)
  refine r_aload_n dX0_alone_0 rfl ?_
  refine r_iload_n dX0_alone_1 rfl ?_
  by_cases h2 : sTh V i
  · refine r_cV1i dX0_alone_2 vlX0_76 (br_s _ hb) (Nat.le_of_ble_eq_true rfl) (k_isThere_t hP hb h2 (d + 2)) ?_
    refine r_if_eq 20 dX0_alone_5 (by decide) (fun c5 => ?_) (fun c5 => ?_)
    · exact absurd c5 (by decide)
    · refine r_aload_n dX0_alone_8 rfl ?_
      refine r_getIv dX0_alone_9 flX0_53 (br_s _ hb) (by decide) rfl (wB_i _ _ _ (by decide)) ?_
      refine r_iload_n dX0_alone_12 rfl ?_
      refine r_ishr dX0_alone_13 ?_
      refine r_iconst (v := 1) dX0_alone_14 (by decide) ?_
      refine r_iand dX0_alone_15 ?_
      refine r_iconst (v := 1) dX0_alone_16 (by decide) ?_
      refine r_ic_ne 22 dX0_alone_17 (by decide) (fun c17 => ?_) (fun c17 => ?_)
      · refine r_aload_n dX0_alone_22 rfl ?_
        refine r_iload_n dX0_alone_23 rfl ?_
        refine r_iload_n dX0_alone_24 rfl ?_
        refine r_cV2v dX0_alone_25 vlX0_101 (br_s _ hb) (Nat.le_of_ble_eq_true rfl) (k_measure hP hb ht hbt hv h2.in two (d + 2)) ?_
        refine r_aload_n dX0_alone_28 rfl ?_
        refine r_getR dX0_alone_29 flX0_49 (br_s _ hb) (by decide) rfl hbt ?_
        refine r_getR dX0_alone_32 flX0_91 (tl_s _ ht) (by decide) rfl (tl_p8 hP _ ht) ?_
        refine r_iconst (v := 0) dX0_alone_35 (by decide) ?_
        obtain ⟨J36, hx36, hj36⟩ := k_law (E := E) (ex := ex) (J := J) hP hb V ht (sNm V i two) (lw := 0) (vp_in_iff.mpr (by decide)) hL.1 (d + 2)
        refine r_cV1l dX0_alone_36 vlX0_105 (tl_w _ ht) (Nat.le_of_ble_eq_true rfl) hx36 ?_
        refine r_sipush (v := 9999) dX0_alone_39 (by decide) ?_
        refine r_aload_n dX0_alone_42 rfl ?_
        refine r_getR dX0_alone_43 flX0_24 (br_s _ hb) (by decide) rfl (br_p5 hP _ hb) ?_
        refine r_iload_n dX0_alone_46 rfl ?_
        refine r_ialv dX0_alone_47 (br_a5 _ hb) h2.in (wB_a _ _ _ (by decide) (by decide) (vlt h2.in)) ?_
        refine r_aload_n dX0_alone_48 rfl ?_
        refine r_getR dX0_alone_49 flX0_24 (br_s _ hb) (by decide) rfl (br_p5 hP _ hb) ?_
        refine r_iload_n dX0_alone_52 rfl ?_
        refine r_ialv dX0_alone_53 (br_a5 _ hb) h2.in (wB_a _ _ _ (by decide) (by decide) (vlt h2.in)) ?_
        refine r_aload_n dX0_alone_54 rfl ?_
        refine r_getR dX0_alone_55 flX0_27 (br_s _ hb) (by decide) rfl (br_p6 hP _ hb) ?_
        refine r_iload_n dX0_alone_58 rfl ?_
        refine r_ialv dX0_alone_59 (br_a6 _ hb) h2.in (wB_a _ _ _ (by decide) (by decide) (vlt h2.in)) ?_
        refine r_imul dX0_alone_60 ?_
        refine r_bipush (v := 100) dX0_alone_61 (by decide) ?_
        refine r_idiv dX0_alone_63 (by decide) ?_
        refine r_isub dX0_alone_64 ?_
        refine r_cS3i dX0_alone_65 slX0_109 (Nat.le_of_ble_eq_true rfl) (k_within (b := b) _ _ _ (d + 3)) ?_
        exact r_iretq dX0_alone_68 rfl rfl (by rw [sAl, if_neg (fun q => q.elim (fun z => z h2) c17)]; exact Qj.mk hj36)
      · refine r_iconst (v := 0) dX0_alone_20 (by decide) ?_
        exact r_iretq dX0_alone_21 rfl rfl (by rw [sAl, if_pos (Or.inr c17)]; exact Qj.mk (Jok.rf J t))
  · refine r_cV1i dX0_alone_2 vlX0_76 (br_s _ hb) (Nat.le_of_ble_eq_true rfl) (k_isThere_f hP hb h2 (d + 2)) ?_
    refine r_if_eq 20 dX0_alone_5 (by decide) (fun c5 => ?_) (fun c5 => ?_)
    · refine r_iconst (v := 0) dX0_alone_20 (by decide) ?_
      exact r_iretq dX0_alone_21 rfl rfl (by rw [sAl, if_pos (Or.inl h2)]; exact Qj.mk (Jok.rf J t))
    · exact absurd c5 (by decide)
def sLo (V : Nat → Nat → Int32) (Lw : Nat → (Nat → Int64) → Int64) (w : Int32) : Int32 := sWl (Lw 0 (sN7 w 0 0 99 (V 15 0) 0 0)) 9999 w
set_option maxHeartbeats 1000000 in
theorem k_loanBears {E : xCl} {ex : Bool} {I V : Nat → Nat → Int32} {J : Nat → Nat → Int64} {P : Nat → Nat → Nat} (hP : Pok P) {b : Nat} (hb : b ∈ BR) {t : Nat} (ht : t ∈ TL) (hbt : P b 0 = t + 1) (hL : Lok I t) (w : Int32) (d : Nat) : ∃ J', xEx E ex (d + 4) yX0_loanBears [.ref b, .int w] (SH, wB I b V, J, P) (some (.int (sLo V (Lv I t) w))) (SH, wB I b V, J', P) ∧ Jok J J' t := by
  refine Qj.use (x_enterq (d := d + 3) cqX0_loanBears [some (.ref b), some (.int w)] rfl (by simp [lg_sl, Value.category]) ?_)
  refine r_aload_n dX0_loanBears_0 rfl ?_
  refine r_iload_n dX0_loanBears_1 rfl ?_
  refine r_iconst (v := 0) dX0_loanBears_2 (by decide) ?_
  refine r_iconst (v := 0) dX0_loanBears_3 (by decide) ?_
  refine r_bipush (v := 99) dX0_loanBears_4 (by decide) ?_
  refine r_iconst (v := 0) dX0_loanBears_6 (by decide) ?_
  refine r_iconst (v := 0) dX0_loanBears_7 (by decide) ?_
  refine r_cV6v dX0_loanBears_8 vlX0_87 (br_s _ hb) (Nat.le_of_ble_eq_true rfl) (k_setNames hP hb ht hbt _ _ _ _ _ _ (d + 2)) ?_
  refine r_aload_n dX0_loanBears_11 rfl ?_
  refine r_getR dX0_loanBears_12 flX0_49 (br_s _ hb) (by decide) rfl hbt ?_
  refine r_getR dX0_loanBears_15 flX0_91 (tl_s _ ht) (by decide) rfl (tl_p8 hP _ ht) ?_
  refine r_iconst (v := 0) dX0_loanBears_18 (by decide) ?_
  obtain ⟨J19, hx19, hj19⟩ := k_law (E := E) (ex := ex) (J := J) hP hb V ht (sN7 w 0 0 99 (V 15 0) 0 0) (lw := 0) (vp_in_iff.mpr (by decide)) hL.1 (d + 1)
  refine r_cV1l dX0_loanBears_19 vlX0_105 (tl_w _ ht) (Nat.le_of_ble_eq_true rfl) hx19 ?_
  refine r_sipush (v := 9999) dX0_loanBears_22 (by decide) ?_
  refine r_iload_n dX0_loanBears_25 rfl ?_
  refine r_cS3i dX0_loanBears_26 slX0_109 (Nat.le_of_ble_eq_true rfl) (k_within (b := b) _ _ _ (d + 2)) ?_
  exact r_iretq dX0_loanBears_29 rfl rfl (Qj.mk hj19)
def sBr (V : Nat → Nat → Int32) (Lw : Nat → (Nat → Int64) → Int64) : Nat → Int32
  | 0 => V 14 0
  | j + 1 => if V 9 j = 0 then (if sTwo V (nI j) = 0 then sBr V Lw j + sAl V Lw (nI j) 0 else if V 10 j ≤ nI j then sBr V Lw j else sBr V Lw j + (sAl V Lw (nI j) 1 + sAl V Lw (V 10 j) 1 + (sAl V Lw (nI j) 1 + sAl V Lw (V 10 j) 1) / 2)) else sBr V Lw j
set_option maxHeartbeats 2000000 in
theorem l_bridgeBears {E : xCl} {ex : Bool} {I V : Nat → Nat → Int32} {J : Nat → Nat → Int64} {P : Nat → Nat → Nat} (hP : Pok P) {b : Nat} (hb : b ∈ BR) {t : Nat} (ht : t ∈ TL) (hbt : P b 0 = t + 1) {n : Nat} (hv : Vok V n) (hL : Lok I t) (d : Nat) : ∀ j, j ≤ n → ∀ (J1 : Nat → Nat → Int64) (x3 x4 : Option Value), Jok J J1 t → xR (xEx E ex (d + 5)) ex none yX0_bridgeBears cX0_bridgeBears (some .int) 7 [some (.ref b), some (.int (sBr V (Lv I t) j)), some (.int (nI j)), x3, x4] [] (SH, wB I b V, J1, P) (Qj (wB I b V) J P t (some (.int (sBr V (Lv I t) n)))) := by
  refine r_for (fun j => ∀ (J1 : Nat → Nat → Int64) (x3 x4 : Option Value), Jok J J1 t → xR (xEx E ex (d + 5)) ex none yX0_bridgeBears cX0_bridgeBears (some .int) 7 [some (.ref b), some (.int (sBr V (Lv I t) j)), some (.int (nI j)), x3, x4] [] (SH, wB I b V, J1, P) (Qj (wB I b V) J P t (some (.int (sBr V (Lv I t) n))))) _ ?_ ?_
  · intro j hj ih J1 x3 x4 hJ
    refine r_iload_n dX0_bridgeBears_7 rfl ?_
    refine r_aload_n dX0_bridgeBears_8 rfl ?_
    refine r_getIv dX0_bridgeBears_9 flX0_57 (br_s _ hb) (by decide) rfl (wB_i _ _ _ (by decide)) ?_
    refine r_ic_ge 94 dX0_bridgeBears_12 (by decide) (fun c12 => ?_) (fun c12 => ?_)
    · exact absurd c12 (hv.g hj)
    · refine r_aload_n dX0_bridgeBears_15 rfl ?_
      refine r_iload_n dX0_bridgeBears_16 rfl ?_
      by_cases h17 : sTh V (nI j)
      · refine r_cV1i dX0_bridgeBears_17 vlX0_76 (br_s _ hb) (Nat.le_of_ble_eq_true rfl) (k_isThere_t hP hb h17 (d + 3)) ?_
        have q17 := (hv.t hj).mp h17
        refine r_if_ne 26 dX0_bridgeBears_20 (by decide) (fun c20 => ?_) (fun c20 => ?_)
        · refine r_aload_n dX0_bridgeBears_26 rfl ?_
          refine r_iload_n dX0_bridgeBears_27 rfl ?_
          refine r_cV1i dX0_bridgeBears_28 vlX0_115 (br_s _ hb) (Nat.le_of_ble_eq_true rfl) (k_twoOf hP hb (hv.i hj) (d + 2)) ?_
          refine r_istore_n3 dX0_bridgeBears_31 rfl ?_
          refine r_iload_n dX0_bridgeBears_32 rfl ?_
          refine r_if_ne 48 dX0_bridgeBears_33 (by decide) (fun c33 => ?_) (fun c33 => ?_)
          · refine r_iload_n dX0_bridgeBears_48 rfl ?_
            refine r_aload_n dX0_bridgeBears_49 rfl ?_
            refine r_getR dX0_bridgeBears_50 flX0_39 (br_s _ hb) (by decide) rfl (br_p10 hP _ hb) ?_
            refine r_iload_n dX0_bridgeBears_53 rfl ?_
            refine r_ialv dX0_bridgeBears_54 (br_a10 _ hb) (hv.i hj) (wB_ac _ _ _ (by decide) (by decide) (vlt (hv.i hj)) (hv.c hj)) ?_
            refine r_ic_ge 88 dX0_bridgeBears_55 (by decide) (fun c55 => ?_) (fun c55 => ?_)
            · refine r_iinc2 (v := 1) dX0_bridgeBears_88 (by decide) rfl ?_
              refine r_goto 7 dX0_bridgeBears_91 (by decide) ?_
              rw [nI_1]; simp only [sBr, if_pos q17, if_neg c33, if_pos c55] at ih; exact ih _ _ _ hJ
            · refine r_aload_n dX0_bridgeBears_58 rfl ?_
              refine r_iload_n dX0_bridgeBears_59 rfl ?_
              refine r_iconst (v := 1) dX0_bridgeBears_60 (by decide) ?_
              obtain ⟨J61, hx61, hj61⟩ := k_alone (E := E) (ex := ex) (J := J1) hP hb ht hbt hv hL (nI j) 1 (d + 0)
              have hj61 := hJ.tr hj61
              refine r_cV2i dX0_bridgeBears_61 vlX0_119 (br_s _ hb) (Nat.le_of_ble_eq_true rfl) hx61 ?_
              refine r_aload_n dX0_bridgeBears_64 rfl ?_
              refine r_aload_n dX0_bridgeBears_65 rfl ?_
              refine r_getR dX0_bridgeBears_66 flX0_39 (br_s _ hb) (by decide) rfl (br_p10 hP _ hb) ?_
              refine r_iload_n dX0_bridgeBears_69 rfl ?_
              refine r_ialv dX0_bridgeBears_70 (br_a10 _ hb) (hv.i hj) (wB_ac _ _ _ (by decide) (by decide) (vlt (hv.i hj)) (hv.c hj)) ?_
              refine r_iconst (v := 1) dX0_bridgeBears_71 (by decide) ?_
              obtain ⟨J72, hx72, hj72⟩ := k_alone (E := E) (ex := ex) (J := J61) hP hb ht hbt hv hL (V 10 j) 1 (d + 0)
              have hj72 := hj61.tr hj72
              refine r_cV2i dX0_bridgeBears_72 vlX0_119 (br_s _ hb) (Nat.le_of_ble_eq_true rfl) hx72 ?_
              refine r_iadd dX0_bridgeBears_75 ?_
              refine r_istore4 dX0_bridgeBears_76 rfl ?_
              refine r_iload_n dX0_bridgeBears_78 rfl ?_
              refine r_iload dX0_bridgeBears_79 rfl ?_
              refine r_iload dX0_bridgeBears_81 rfl ?_
              refine r_iconst (v := 2) dX0_bridgeBears_83 (by decide) ?_
              refine r_idiv dX0_bridgeBears_84 (by decide) ?_
              refine r_iadd dX0_bridgeBears_85 ?_
              refine r_iadd dX0_bridgeBears_86 ?_
              refine r_istore_n1 dX0_bridgeBears_87 rfl ?_
              refine r_iinc2 (v := 1) dX0_bridgeBears_88 (by decide) rfl ?_
              refine r_goto 7 dX0_bridgeBears_91 (by decide) ?_
              rw [nI_1]; simp only [sBr, if_pos q17, if_neg c33, if_neg c55] at ih; exact ih _ _ _ hj72
          · refine r_iload_n dX0_bridgeBears_36 rfl ?_
            refine r_aload_n dX0_bridgeBears_37 rfl ?_
            refine r_iload_n dX0_bridgeBears_38 rfl ?_
            refine r_iconst (v := 0) dX0_bridgeBears_39 (by decide) ?_
            obtain ⟨J40, hx40, hj40⟩ := k_alone (E := E) (ex := ex) (J := J1) hP hb ht hbt hv hL (nI j) 0 (d + 0)
            have hj40 := hJ.tr hj40
            refine r_cV2i dX0_bridgeBears_40 vlX0_119 (br_s _ hb) (Nat.le_of_ble_eq_true rfl) hx40 ?_
            refine r_iadd dX0_bridgeBears_43 ?_
            refine r_istore_n1 dX0_bridgeBears_44 rfl ?_
            refine r_goto 88 dX0_bridgeBears_45 (by decide) ?_
            refine r_iinc2 (v := 1) dX0_bridgeBears_88 (by decide) rfl ?_
            refine r_goto 7 dX0_bridgeBears_91 (by decide) ?_
            rw [nI_1]; simp only [sBr, if_pos q17, if_pos c33] at ih; exact ih _ _ _ hj40
        · exact absurd c20 (by decide)
      · refine r_cV1i dX0_bridgeBears_17 vlX0_76 (br_s _ hb) (Nat.le_of_ble_eq_true rfl) (k_isThere_f hP hb h17 (d + 3)) ?_
        have q17 := fun q => h17 ((hv.t hj).mpr q)
        refine r_if_ne 26 dX0_bridgeBears_20 (by decide) (fun c20 => ?_) (fun c20 => ?_)
        · exact absurd c20 (by decide)
        · refine r_goto 88 dX0_bridgeBears_23 (by decide) ?_
          refine r_iinc2 (v := 1) dX0_bridgeBears_88 (by decide) rfl ?_
          refine r_goto 7 dX0_bridgeBears_91 (by decide) ?_
          rw [nI_1]; simp only [sBr, if_neg q17] at ih; exact ih _ _ _ hJ
  · intro J1 x3 x4 hJ
    refine r_iload_n dX0_bridgeBears_7 rfl ?_
    refine r_aload_n dX0_bridgeBears_8 rfl ?_
    refine r_getIv dX0_bridgeBears_9 flX0_57 (br_s _ hb) (by decide) rfl (wB_i _ _ _ (by decide)) ?_
    refine r_ic_ge 94 dX0_bridgeBears_12 (by decide) (fun c12 => ?_) (fun c12 => ?_)
    · refine r_iload_n dX0_bridgeBears_94 rfl ?_
      exact r_iretq dX0_bridgeBears_95 rfl rfl (Qj.mk hJ)
    · exact absurd hv.l c12
set_option maxHeartbeats 1000000 in
theorem k_bridgeBears {E : xCl} {ex : Bool} {I V : Nat → Nat → Int32} {J : Nat → Nat → Int64} {P : Nat → Nat → Nat} (hP : Pok P) {b : Nat} (hb : b ∈ BR) {t : Nat} (ht : t ∈ TL) (hbt : P b 0 = t + 1) {n : Nat} (hv : Vok V n) (hL : Lok I t) (d : Nat) : ∃ J', xEx E ex (d + 6) yX0_bridgeBears [.ref b] (SH, wB I b V, J, P) (some (.int (sBr V (Lv I t) n))) (SH, wB I b V, J', P) ∧ Jok J J' t := by
  refine Qj.use (x_enterq (d := d + 5) cqX0_bridgeBears [some (.ref b), none, none, none, none] rfl (by simp [lg_sl, Value.category]) ?_)
  refine r_aload_n dX0_bridgeBears_0 rfl ?_
  refine r_getIv dX0_bridgeBears_1 flX0_60 (br_s _ hb) (by decide) rfl (wB_i _ _ _ (by decide)) ?_
  refine r_istore_n1 dX0_bridgeBears_4 rfl ?_
  refine r_iconst (v := 0) dX0_bridgeBears_5 (by decide) ?_
  refine r_istore_n2 dX0_bridgeBears_6 rfl ?_
  exact l_bridgeBears hP hb ht hbt hv hL d 0 (Nat.zero_le n) J none none (Jok.rf J t)
