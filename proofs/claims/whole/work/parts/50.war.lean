/-! loans, cliffs at war, the fewest cuts -/
def sLn (f : Int32 → Int32) (w : Int32) : Nat → Nat → Int32
  | 0, _ => -2
  | c + 1, j => if f (nI j) < w then sLn f w c (j + 1) else nI j
/-- the end of a method on what is now that changes only names and stack of the laws -/
abbrev okL (w : Int32) : Prop := ¬ w < 1 ∧ w ≤ 9999
def sLoan (B : Int32) (f : Int32 → Int32) (w : Int32) : Int32 := if w < 1 then -1 else if w ≤ 9999 then (if B < w then sLn f w 999 1 else 0) else -1
set_option maxHeartbeats 2000000 in
theorem l_loan {E : xCl} {ex : Bool} {I V : Nat → Nat → Int32} {J : Nat → Nat → Int64} {P : Nat → Nat → Nat} (hP : Pok P) {t : Nat} (ht : t ∈ TL) (hx5 : P 0 5 = t + 1) (hbt : P 56 0 = t + 1) {n : Nat} (hv : Vok V n) (hL : Lok I t) (w : Int32) (d : Nat) : ∀ c j J1, j + c = 1000 → Jok J J1 t → xR (xEx E ex (d + 6)) ex none yX10_loan cX10_loan (some .int) 31 [some (.ref 0), some (.int w), some (.int (sBr V (Lv I t) n)), some (.int (nI j))] [] (SH, wB I 56 V, J1, P) (Qj (wB I 56 V) J P t (some (.int (sLn (fun u => sBr V (Lv I t) n + sLo V (Lv I t) u) w c j)))) := by
  intro c
  induction c with
  | zero =>
    intro j J1 hj hJ
    refine r_iload_n dX10_loan_31 rfl ?_
    refine r_sipush (v := 999) dX10_loan_32 (by decide) ?_
    refine r_ic_gt 60 dX10_loan_35 (by decide) (fun c35 => ?_) (fun c35 => ?_)
    · refine r_bipush (v := (-2)) dX10_loan_60 (by decide) ?_
      exact r_iretq dX10_loan_62 rfl rfl (Qj.mk hJ)
    · exact absurd (by rw [show j = 1000 by omega]; decide) c35
  | succ c ih =>
    intro j J1 hj hJ
    refine r_iload_n dX10_loan_31 rfl ?_
    refine r_sipush (v := 999) dX10_loan_32 (by decide) ?_
    refine r_ic_gt 60 dX10_loan_35 (by decide) (fun c35 => ?_) (fun c35 => ?_)
    · exact absurd c35 (nI_nlt (a := 999) (b := j) (by omega) (by omega))
    · refine r_iload_n dX10_loan_38 rfl ?_
      refine r_aload_n dX10_loan_39 rfl ?_
      refine r_getR dX10_loan_40 flX10_42 sh_0 (by decide) rfl (pf_0_7 hP) ?_
      refine r_iload_n dX10_loan_43 rfl ?_
      obtain ⟨J44, hx44, hj44⟩ := k_loanBears (E := E) (ex := ex) (J := J1) hP hb56 ht hbt hL (nI j) (d + 2)
      refine r_cV1i dX10_loan_44 vlX10_307 (br_s _ hb56) (Nat.le_of_ble_eq_true rfl) hx44 ?_
      refine r_iadd dX10_loan_47 ?_
      refine r_iload_n dX10_loan_48 rfl ?_
      refine r_ic_lt 54 dX10_loan_49 (by decide) (fun c49 => ?_) (fun c49 => ?_)
      · refine r_iinc3 (v := 1) dX10_loan_54 (by decide) rfl ?_
        refine r_goto 31 dX10_loan_57 (by decide) ?_
        rw [nI_1]; rw [sLn, if_pos c49]; exact ih (j + 1) _ (by omega) (hJ.tr hj44)
      · refine r_iload_n dX10_loan_52 rfl ?_
        exact r_iretq dX10_loan_53 rfl rfl (by rw [sLn, if_neg c49]; exact Qj.mk (hJ.tr hj44))
set_option maxHeartbeats 2000000 in
theorem k_loan {E : xCl} {ex : Bool} {I V : Nat → Nat → Int32} {J : Nat → Nat → Int64} {P : Nat → Nat → Nat} (hP : Pok P) {t : Nat} (ht : t ∈ TL) (hx5 : P 0 5 = t + 1) (hbt : P 56 0 = t + 1) {n : Nat} (hv : Vok V n) (hL : Lok I t) (w : Int32) (d : Nat) : ∃ J', xEx E ex (d + 7) yX10_loan [.ref 0, .int w] (SH, wB I 56 V, J, P) (some (.int (sLoan (sBr V (Lv I t) n) (fun u => sBr V (Lv I t) n + sLo V (Lv I t) u) w))) (SH, wB I 56 V, J', P) ∧ Jok J J' t := by
  refine Qj.use (x_enterq (d := d + 6) cqX10_loan [some (.ref 0), some (.int w), none, none] rfl (by simp [lg_sl, Value.category]) ?_)
  refine r_iload_n dX10_loan_0 rfl ?_
  refine r_iconst (v := 1) dX10_loan_1 (by decide) ?_
  refine r_ic_lt 12 dX10_loan_2 (by decide) (fun c2 => ?_) (fun c2 => ?_)
  · refine r_iconst (v := (-1)) dX10_loan_12 (by decide) ?_
    exact r_iretq dX10_loan_13 rfl rfl (by rw [sLoan, if_pos c2]; exact Qj.mk (Jok.rf J t))
  · refine r_iload_n dX10_loan_5 rfl ?_
    refine r_sipush (v := 9999) dX10_loan_6 (by decide) ?_
    refine r_ic_le 14 dX10_loan_9 (by decide) (fun c9 => ?_) (fun c9 => ?_)
    · refine r_aload_n dX10_loan_14 rfl ?_
      refine r_getR dX10_loan_15 flX10_42 sh_0 (by decide) rfl (pf_0_7 hP) ?_
      obtain ⟨J18, hx18, hj18⟩ := k_bridgeBears (E := E) (ex := ex) (J := J) hP hb56 ht hbt hv hL (d + 0)
      refine r_cV0i dX10_loan_18 vlX10_239 (br_s _ hb56) (Nat.le_of_ble_eq_true rfl) hx18 ?_
      refine r_istore_n2 dX10_loan_21 rfl ?_
      refine r_iload_n dX10_loan_22 rfl ?_
      refine r_iload_n dX10_loan_23 rfl ?_
      refine r_ic_lt 29 dX10_loan_24 (by decide) (fun c24 => ?_) (fun c24 => ?_)
      · refine r_iconst (v := 1) dX10_loan_29 (by decide) ?_
        refine r_istore_n3 dX10_loan_30 rfl ?_
        rw [sLoan, if_neg c2, if_pos c9, if_pos c24]; exact l_loan hP ht hx5 hbt hv hL w d 999 1 _ (by omega) hj18
      · refine r_iconst (v := 0) dX10_loan_27 (by decide) ?_
        exact r_iretq dX10_loan_28 rfl rfl (by rw [sLoan, if_neg c2, if_pos c9, if_neg c24]; exact Qj.mk hj18)
    · refine r_iconst (v := (-1)) dX10_loan_12 (by decide) ?_
      exact r_iretq dX10_loan_13 rfl rfl (by rw [sLoan, if_neg c2, if_neg c9]; exact Qj.mk (Jok.rf J t))
theorem sWo_eq {V : Nat → Nat → Int32} {n : Nat} (hv : Vok V n) {g h g' h' : Nat → Int32} (eg : ∀ k, k < n → g' k = g k) (eh : ∀ k, k < n → h' k = h k) (cut : Int32) : ∀ j, j ≤ n → sWo V g' h' cut j = sWo V g h cut j
  | 0, _ => rfl
  | j + 1, hj => by
    have e := sWo_eq hv eg eh cut j (by omega)
    unfold sWo
    rw [e, eg j (by omega), eh j (by omega)]
    by_cases q : sSy V cut (V 10 j)
    · have : (V 10 j).toNatClampNeg < n := by
        obtain ⟨q2, q3, _⟩ := q.1.1
        rw [hv.2.1] at q3
        simp only [Int32.lt_iff_toInt_lt, Int32.le_iff_toInt_le, Int32.toInt_zero, nI_toInt (n := n) (by have := hv.1; omega)] at q2 q3
        show (V 10 j).toInt.toNat < n
        omega
      rw [eh _ this]
    · simp only [if_neg q]
def sGn (V : Nat → Nat → Int32) (sd : Nat → Int32) (Wo : Int32 → Int32) (n : Nat) (s d w : Int32) : Int32 :=
  if s = 0 then (if d / 2 = 1 then (if Wo ((if d / 2 = 1 then sSide V sd 0 n else 0) ||| (if d - d / 2 * 2 = 1 then sSide V sd 1 n else 0)) < 1 then 0 else w) + sOn V (sSide V sd s n) n else (if Wo ((if d / 2 = 1 then sSide V sd 0 n else 0) ||| (if d - d / 2 * 2 = 1 then sSide V sd 1 n else 0)) < 1 then 0 else w))
  else (if d - d / 2 * 2 = 1 then (if Wo ((if d / 2 = 1 then sSide V sd 0 n else 0) ||| (if d - d / 2 * 2 = 1 then sSide V sd 1 n else 0)) < 1 then 0 else w) + sOn V (sSide V sd s n) n else (if Wo ((if d / 2 = 1 then sSide V sd 0 n else 0) ||| (if d - d / 2 * 2 = 1 then sSide V sd 1 n else 0)) < 1 then 0 else w))
def sRb (Gn : Int32 → Int32 → Int32) : Nat → Int32
  | 0 => 0
  | e + 1 => if ¬ Gn 0 (nI e) < Gn 0 (nI e ^^^ 2) ∧ ¬ Gn 1 (nI e) < Gn 1 (nI e ^^^ 1) then sRb Gn e ||| (1 <<< (nI e &&& 31)) else sRb Gn e
def sRs (b k : Int32) : Nat → Nat → Int32 → Int32
  | 0, _, _ => -2
  | c + 1, e, p => if (b >>> (nI e &&& 31)) &&& 1 = 1 then (if p = k then nI e / 2 * 10 + (nI e - nI e / 2 * 2) else sRs b k c (e + 1) (p + 1)) else sRs b k c (e + 1) p
set_option maxHeartbeats 1000000 in
theorem k_gains {E : xCl} {ex : Bool} {I V : Nat → Nat → Int32} {J : Nat → Nat → Int64} {P : Nat → Nat → Nat} (hP : Pok P) {t : Nat} (ht : t ∈ TL) (hx5 : P 0 5 = t + 1) (hbt : P 56 0 = t + 1) {n : Nat} (hv : Vok V n) (s u w : Int32) (d : Nat) : xEx E ex (d + 5) yX10_gains [.ref 0, .int s, .int u, .int w] (SH, wB I 56 V, J, P) (some (.int (sGn V (I (t + 2)) (fun c => sWo V (I 99) (I 100) c n) n s u w))) (SH, wB I 56 V, J, P) := by
  refine x_enter cqX10_gains [some (.ref 0), some (.int s), some (.int u), some (.int w), none, none, none, none, none] rfl (by simp [lg_sl, Value.category]) ?_
  refine r_iload_n dX10_gains_0 rfl ?_
  refine r_iconst (v := 2) dX10_gains_1 (by decide) ?_
  refine r_idiv dX10_gains_2 (by decide) ?_
  refine r_iconst (v := 1) dX10_gains_3 (by decide) ?_
  refine r_ic_ne 11 dX10_gains_4 (by decide) (fun c4 => ?_) (fun c4 => ?_)
  · refine r_iconst (v := 0) dX10_gains_11 (by decide) ?_
    refine r_istore4 dX10_gains_12 rfl ?_
    refine r_iload_n dX10_gains_14 rfl ?_
    refine r_iconst (v := 2) dX10_gains_15 (by decide) ?_
    refine r_irem dX10_gains_16 (by decide) ?_
    refine r_iconst (v := 1) dX10_gains_17 (by decide) ?_
    refine r_ic_ne 25 dX10_gains_18 (by decide) (fun c18 => ?_) (fun c18 => ?_)
    · refine r_iconst (v := 0) dX10_gains_25 (by decide) ?_
      refine r_istore5 dX10_gains_26 rfl ?_
      refine r_iload dX10_gains_28 rfl ?_
      refine r_if_eq 44 dX10_gains_30 (by decide) (fun c30 => ?_) (fun c30 => ?_)
      · refine r_iconst (v := 0) dX10_gains_44 (by decide) ?_
        refine r_iload dX10_gains_45 rfl ?_
        refine r_if_eq 61 dX10_gains_47 (by decide) (fun c47 => ?_) (fun c47 => ?_)
        · refine r_iconst (v := 0) dX10_gains_61 (by decide) ?_
          refine r_ior dX10_gains_62 ?_
          refine r_istore6 dX10_gains_63 rfl ?_
          refine r_aload_n dX10_gains_65 rfl ?_
          refine r_getR dX10_gains_66 flX10_65 sh_0 (by decide) rfl (pf_0_15 hP) ?_
          refine r_aload_n dX10_gains_69 rfl ?_
          refine r_getR dX10_gains_70 flX10_42 sh_0 (by decide) rfl (pf_0_7 hP) ?_
          refine r_iload dX10_gains_73 rfl ?_
          refine r_cV2i dX10_gains_75 vlX10_297 sh_98 (Nat.le_of_ble_eq_true rfl) (k_without hP hb56 hv _ d) ?_
          refine r_iconst (v := 1) dX10_gains_78 (by decide) ?_
          refine r_ic_lt 86 dX10_gains_79 (by decide) (fun c79 => ?_) (fun c79 => ?_)
          · refine r_iconst (v := 0) dX10_gains_86 (by decide) ?_
            refine r_istore7 dX10_gains_87 rfl ?_
            refine r_iload_n dX10_gains_89 rfl ?_
            refine r_if_ne 98 dX10_gains_90 (by decide) (fun c90 => ?_) (fun c90 => ?_)
            · refine r_iload dX10_gains_98 rfl ?_
              refine r_istore8 dX10_gains_100 rfl ?_
              refine r_iload dX10_gains_102 rfl ?_
              refine r_if_eq 128 dX10_gains_104 (by decide) (fun c104 => ?_) (fun c104 => ?_)
              · refine r_iload dX10_gains_128 rfl ?_
                exact r_iret dX10_gains_130 rfl rfl (by simp only [sGn, if_neg c4, if_neg c18, if_pos c79, if_neg c90]) rfl
              · exact absurd c104 (by decide)
            · refine r_iload dX10_gains_93 rfl ?_
              refine r_goto 100 dX10_gains_95 (by decide) ?_
              refine r_istore8 dX10_gains_100 rfl ?_
              refine r_iload dX10_gains_102 rfl ?_
              refine r_if_eq 128 dX10_gains_104 (by decide) (fun c104 => ?_) (fun c104 => ?_)
              · refine r_iload dX10_gains_128 rfl ?_
                exact r_iret dX10_gains_130 rfl rfl (by simp only [sGn, if_neg c4, if_neg c18, if_pos c79, if_pos c90]) rfl
              · exact absurd c104 (by decide)
          · refine r_iload_n dX10_gains_82 rfl ?_
            refine r_goto 87 dX10_gains_83 (by decide) ?_
            refine r_istore7 dX10_gains_87 rfl ?_
            refine r_iload_n dX10_gains_89 rfl ?_
            refine r_if_ne 98 dX10_gains_90 (by decide) (fun c90 => ?_) (fun c90 => ?_)
            · refine r_iload dX10_gains_98 rfl ?_
              refine r_istore8 dX10_gains_100 rfl ?_
              refine r_iload dX10_gains_102 rfl ?_
              refine r_if_eq 128 dX10_gains_104 (by decide) (fun c104 => ?_) (fun c104 => ?_)
              · refine r_iload dX10_gains_128 rfl ?_
                exact r_iret dX10_gains_130 rfl rfl (by simp only [sGn, if_neg c4, if_neg c18, if_neg c79, if_neg c90]) rfl
              · exact absurd c104 (by decide)
            · refine r_iload dX10_gains_93 rfl ?_
              refine r_goto 100 dX10_gains_95 (by decide) ?_
              refine r_istore8 dX10_gains_100 rfl ?_
              refine r_iload dX10_gains_102 rfl ?_
              refine r_if_eq 128 dX10_gains_104 (by decide) (fun c104 => ?_) (fun c104 => ?_)
              · refine r_iload dX10_gains_128 rfl ?_
                exact r_iret dX10_gains_130 rfl rfl (by simp only [sGn, if_neg c4, if_neg c18, if_neg c79, if_pos c90]) rfl
              · exact absurd c104 (by decide)
        · exact absurd c47 (by decide)
      · exact absurd c30 (by decide)
    · refine r_iconst (v := 1) dX10_gains_21 (by decide) ?_
      refine r_goto 26 dX10_gains_22 (by decide) ?_
      refine r_istore5 dX10_gains_26 rfl ?_
      refine r_iload dX10_gains_28 rfl ?_
      refine r_if_eq 44 dX10_gains_30 (by decide) (fun c30 => ?_) (fun c30 => ?_)
      · refine r_iconst (v := 0) dX10_gains_44 (by decide) ?_
        refine r_iload dX10_gains_45 rfl ?_
        refine r_if_eq 61 dX10_gains_47 (by decide) (fun c47 => ?_) (fun c47 => ?_)
        · exact absurd c47 (by decide)
        · refine r_aload_n dX10_gains_50 rfl ?_
          refine r_getR dX10_gains_51 flX10_42 sh_0 (by decide) rfl (pf_0_7 hP) ?_
          refine r_iconst (v := 1) dX10_gains_54 (by decide) ?_
          refine r_cV1i dX10_gains_55 vlX10_368 (br_s _ hb56) (Nat.le_of_ble_eq_true rfl) (k_strandsOfSide hP hb56 ht hbt hv 1 (d + 1)) ?_
          refine r_goto 62 dX10_gains_58 (by decide) ?_
          refine r_ior dX10_gains_62 ?_
          refine r_istore6 dX10_gains_63 rfl ?_
          refine r_aload_n dX10_gains_65 rfl ?_
          refine r_getR dX10_gains_66 flX10_65 sh_0 (by decide) rfl (pf_0_15 hP) ?_
          refine r_aload_n dX10_gains_69 rfl ?_
          refine r_getR dX10_gains_70 flX10_42 sh_0 (by decide) rfl (pf_0_7 hP) ?_
          refine r_iload dX10_gains_73 rfl ?_
          refine r_cV2i dX10_gains_75 vlX10_297 sh_98 (Nat.le_of_ble_eq_true rfl) (k_without hP hb56 hv _ d) ?_
          refine r_iconst (v := 1) dX10_gains_78 (by decide) ?_
          refine r_ic_lt 86 dX10_gains_79 (by decide) (fun c79 => ?_) (fun c79 => ?_)
          · refine r_iconst (v := 0) dX10_gains_86 (by decide) ?_
            refine r_istore7 dX10_gains_87 rfl ?_
            refine r_iload_n dX10_gains_89 rfl ?_
            refine r_if_ne 98 dX10_gains_90 (by decide) (fun c90 => ?_) (fun c90 => ?_)
            · refine r_iload dX10_gains_98 rfl ?_
              refine r_istore8 dX10_gains_100 rfl ?_
              refine r_iload dX10_gains_102 rfl ?_
              refine r_if_eq 128 dX10_gains_104 (by decide) (fun c104 => ?_) (fun c104 => ?_)
              · exact absurd c104 (by decide)
              · refine r_iload dX10_gains_107 rfl ?_
                refine r_aload_n dX10_gains_109 rfl ?_
                refine r_getR dX10_gains_110 flX10_42 sh_0 (by decide) rfl (pf_0_7 hP) ?_
                refine r_aload_n dX10_gains_113 rfl ?_
                refine r_getR dX10_gains_114 flX10_42 sh_0 (by decide) rfl (pf_0_7 hP) ?_
                refine r_iload_n dX10_gains_117 rfl ?_
                refine r_cV1i dX10_gains_118 vlX10_368 (br_s _ hb56) (Nat.le_of_ble_eq_true rfl) (k_strandsOfSide hP hb56 ht hbt hv s (d + 1)) ?_
                refine r_cV1i dX10_gains_121 vlX10_371 (br_s _ hb56) (Nat.le_of_ble_eq_true rfl) (k_owedOn hP hb56 hv _ (d + 3)) ?_
                refine r_iadd dX10_gains_124 ?_
                refine r_goto 130 dX10_gains_125 (by decide) ?_
                exact r_iret dX10_gains_130 rfl rfl (by simp only [sGn, if_neg c4, if_pos c18, if_pos c79, if_neg c90]) rfl
            · refine r_iload dX10_gains_93 rfl ?_
              refine r_goto 100 dX10_gains_95 (by decide) ?_
              refine r_istore8 dX10_gains_100 rfl ?_
              refine r_iload dX10_gains_102 rfl ?_
              refine r_if_eq 128 dX10_gains_104 (by decide) (fun c104 => ?_) (fun c104 => ?_)
              · refine r_iload dX10_gains_128 rfl ?_
                exact r_iret dX10_gains_130 rfl rfl (by simp only [sGn, if_neg c4, if_pos c18, if_pos c79, if_pos c90]) rfl
              · exact absurd c104 (by decide)
          · refine r_iload_n dX10_gains_82 rfl ?_
            refine r_goto 87 dX10_gains_83 (by decide) ?_
            refine r_istore7 dX10_gains_87 rfl ?_
            refine r_iload_n dX10_gains_89 rfl ?_
            refine r_if_ne 98 dX10_gains_90 (by decide) (fun c90 => ?_) (fun c90 => ?_)
            · refine r_iload dX10_gains_98 rfl ?_
              refine r_istore8 dX10_gains_100 rfl ?_
              refine r_iload dX10_gains_102 rfl ?_
              refine r_if_eq 128 dX10_gains_104 (by decide) (fun c104 => ?_) (fun c104 => ?_)
              · exact absurd c104 (by decide)
              · refine r_iload dX10_gains_107 rfl ?_
                refine r_aload_n dX10_gains_109 rfl ?_
                refine r_getR dX10_gains_110 flX10_42 sh_0 (by decide) rfl (pf_0_7 hP) ?_
                refine r_aload_n dX10_gains_113 rfl ?_
                refine r_getR dX10_gains_114 flX10_42 sh_0 (by decide) rfl (pf_0_7 hP) ?_
                refine r_iload_n dX10_gains_117 rfl ?_
                refine r_cV1i dX10_gains_118 vlX10_368 (br_s _ hb56) (Nat.le_of_ble_eq_true rfl) (k_strandsOfSide hP hb56 ht hbt hv s (d + 1)) ?_
                refine r_cV1i dX10_gains_121 vlX10_371 (br_s _ hb56) (Nat.le_of_ble_eq_true rfl) (k_owedOn hP hb56 hv _ (d + 3)) ?_
                refine r_iadd dX10_gains_124 ?_
                refine r_goto 130 dX10_gains_125 (by decide) ?_
                exact r_iret dX10_gains_130 rfl rfl (by simp only [sGn, if_neg c4, if_pos c18, if_neg c79, if_neg c90]) rfl
            · refine r_iload dX10_gains_93 rfl ?_
              refine r_goto 100 dX10_gains_95 (by decide) ?_
              refine r_istore8 dX10_gains_100 rfl ?_
              refine r_iload dX10_gains_102 rfl ?_
              refine r_if_eq 128 dX10_gains_104 (by decide) (fun c104 => ?_) (fun c104 => ?_)
              · refine r_iload dX10_gains_128 rfl ?_
                exact r_iret dX10_gains_130 rfl rfl (by simp only [sGn, if_neg c4, if_pos c18, if_neg c79, if_pos c90]) rfl
              · exact absurd c104 (by decide)
      · exact absurd c30 (by decide)
  · refine r_iconst (v := 1) dX10_gains_7 (by decide) ?_
    refine r_goto 12 dX10_gains_8 (by decide) ?_
    refine r_istore4 dX10_gains_12 rfl ?_
    refine r_iload_n dX10_gains_14 rfl ?_
    refine r_iconst (v := 2) dX10_gains_15 (by decide) ?_
    refine r_irem dX10_gains_16 (by decide) ?_
    refine r_iconst (v := 1) dX10_gains_17 (by decide) ?_
    refine r_ic_ne 25 dX10_gains_18 (by decide) (fun c18 => ?_) (fun c18 => ?_)
    · refine r_iconst (v := 0) dX10_gains_25 (by decide) ?_
      refine r_istore5 dX10_gains_26 rfl ?_
      refine r_iload dX10_gains_28 rfl ?_
      refine r_if_eq 44 dX10_gains_30 (by decide) (fun c30 => ?_) (fun c30 => ?_)
      · exact absurd c30 (by decide)
      · refine r_aload_n dX10_gains_33 rfl ?_
        refine r_getR dX10_gains_34 flX10_42 sh_0 (by decide) rfl (pf_0_7 hP) ?_
        refine r_iconst (v := 0) dX10_gains_37 (by decide) ?_
        refine r_cV1i dX10_gains_38 vlX10_368 (br_s _ hb56) (Nat.le_of_ble_eq_true rfl) (k_strandsOfSide hP hb56 ht hbt hv 0 (d + 1)) ?_
        refine r_goto 45 dX10_gains_41 (by decide) ?_
        refine r_iload dX10_gains_45 rfl ?_
        refine r_if_eq 61 dX10_gains_47 (by decide) (fun c47 => ?_) (fun c47 => ?_)
        · refine r_iconst (v := 0) dX10_gains_61 (by decide) ?_
          refine r_ior dX10_gains_62 ?_
          refine r_istore6 dX10_gains_63 rfl ?_
          refine r_aload_n dX10_gains_65 rfl ?_
          refine r_getR dX10_gains_66 flX10_65 sh_0 (by decide) rfl (pf_0_15 hP) ?_
          refine r_aload_n dX10_gains_69 rfl ?_
          refine r_getR dX10_gains_70 flX10_42 sh_0 (by decide) rfl (pf_0_7 hP) ?_
          refine r_iload dX10_gains_73 rfl ?_
          refine r_cV2i dX10_gains_75 vlX10_297 sh_98 (Nat.le_of_ble_eq_true rfl) (k_without hP hb56 hv _ d) ?_
          refine r_iconst (v := 1) dX10_gains_78 (by decide) ?_
          refine r_ic_lt 86 dX10_gains_79 (by decide) (fun c79 => ?_) (fun c79 => ?_)
          · refine r_iconst (v := 0) dX10_gains_86 (by decide) ?_
            refine r_istore7 dX10_gains_87 rfl ?_
            refine r_iload_n dX10_gains_89 rfl ?_
            refine r_if_ne 98 dX10_gains_90 (by decide) (fun c90 => ?_) (fun c90 => ?_)
            · refine r_iload dX10_gains_98 rfl ?_
              refine r_istore8 dX10_gains_100 rfl ?_
              refine r_iload dX10_gains_102 rfl ?_
              refine r_if_eq 128 dX10_gains_104 (by decide) (fun c104 => ?_) (fun c104 => ?_)
              · refine r_iload dX10_gains_128 rfl ?_
                exact r_iret dX10_gains_130 rfl rfl (by simp only [sGn, if_pos c4, if_neg c18, if_pos c79, if_neg c90]) rfl
              · exact absurd c104 (by decide)
            · refine r_iload dX10_gains_93 rfl ?_
              refine r_goto 100 dX10_gains_95 (by decide) ?_
              refine r_istore8 dX10_gains_100 rfl ?_
              refine r_iload dX10_gains_102 rfl ?_
              refine r_if_eq 128 dX10_gains_104 (by decide) (fun c104 => ?_) (fun c104 => ?_)
              · exact absurd c104 (by decide)
              · refine r_iload dX10_gains_107 rfl ?_
                refine r_aload_n dX10_gains_109 rfl ?_
                refine r_getR dX10_gains_110 flX10_42 sh_0 (by decide) rfl (pf_0_7 hP) ?_
                refine r_aload_n dX10_gains_113 rfl ?_
                refine r_getR dX10_gains_114 flX10_42 sh_0 (by decide) rfl (pf_0_7 hP) ?_
                refine r_iload_n dX10_gains_117 rfl ?_
                refine r_cV1i dX10_gains_118 vlX10_368 (br_s _ hb56) (Nat.le_of_ble_eq_true rfl) (k_strandsOfSide hP hb56 ht hbt hv s (d + 1)) ?_
                refine r_cV1i dX10_gains_121 vlX10_371 (br_s _ hb56) (Nat.le_of_ble_eq_true rfl) (k_owedOn hP hb56 hv _ (d + 3)) ?_
                refine r_iadd dX10_gains_124 ?_
                refine r_goto 130 dX10_gains_125 (by decide) ?_
                exact r_iret dX10_gains_130 rfl rfl (by simp only [sGn, if_pos c4, if_neg c18, if_pos c79, if_pos c90]) rfl
          · refine r_iload_n dX10_gains_82 rfl ?_
            refine r_goto 87 dX10_gains_83 (by decide) ?_
            refine r_istore7 dX10_gains_87 rfl ?_
            refine r_iload_n dX10_gains_89 rfl ?_
            refine r_if_ne 98 dX10_gains_90 (by decide) (fun c90 => ?_) (fun c90 => ?_)
            · refine r_iload dX10_gains_98 rfl ?_
              refine r_istore8 dX10_gains_100 rfl ?_
              refine r_iload dX10_gains_102 rfl ?_
              refine r_if_eq 128 dX10_gains_104 (by decide) (fun c104 => ?_) (fun c104 => ?_)
              · refine r_iload dX10_gains_128 rfl ?_
                exact r_iret dX10_gains_130 rfl rfl (by simp only [sGn, if_pos c4, if_neg c18, if_neg c79, if_neg c90]) rfl
              · exact absurd c104 (by decide)
            · refine r_iload dX10_gains_93 rfl ?_
              refine r_goto 100 dX10_gains_95 (by decide) ?_
              refine r_istore8 dX10_gains_100 rfl ?_
              refine r_iload dX10_gains_102 rfl ?_
              refine r_if_eq 128 dX10_gains_104 (by decide) (fun c104 => ?_) (fun c104 => ?_)
              · exact absurd c104 (by decide)
              · refine r_iload dX10_gains_107 rfl ?_
                refine r_aload_n dX10_gains_109 rfl ?_
                refine r_getR dX10_gains_110 flX10_42 sh_0 (by decide) rfl (pf_0_7 hP) ?_
                refine r_aload_n dX10_gains_113 rfl ?_
                refine r_getR dX10_gains_114 flX10_42 sh_0 (by decide) rfl (pf_0_7 hP) ?_
                refine r_iload_n dX10_gains_117 rfl ?_
                refine r_cV1i dX10_gains_118 vlX10_368 (br_s _ hb56) (Nat.le_of_ble_eq_true rfl) (k_strandsOfSide hP hb56 ht hbt hv s (d + 1)) ?_
                refine r_cV1i dX10_gains_121 vlX10_371 (br_s _ hb56) (Nat.le_of_ble_eq_true rfl) (k_owedOn hP hb56 hv _ (d + 3)) ?_
                refine r_iadd dX10_gains_124 ?_
                refine r_goto 130 dX10_gains_125 (by decide) ?_
                exact r_iret dX10_gains_130 rfl rfl (by simp only [sGn, if_pos c4, if_neg c18, if_neg c79, if_pos c90]) rfl
        · exact absurd c47 (by decide)
    · refine r_iconst (v := 1) dX10_gains_21 (by decide) ?_
      refine r_goto 26 dX10_gains_22 (by decide) ?_
      refine r_istore5 dX10_gains_26 rfl ?_
      refine r_iload dX10_gains_28 rfl ?_
      refine r_if_eq 44 dX10_gains_30 (by decide) (fun c30 => ?_) (fun c30 => ?_)
      · exact absurd c30 (by decide)
      · refine r_aload_n dX10_gains_33 rfl ?_
        refine r_getR dX10_gains_34 flX10_42 sh_0 (by decide) rfl (pf_0_7 hP) ?_
        refine r_iconst (v := 0) dX10_gains_37 (by decide) ?_
        refine r_cV1i dX10_gains_38 vlX10_368 (br_s _ hb56) (Nat.le_of_ble_eq_true rfl) (k_strandsOfSide hP hb56 ht hbt hv 0 (d + 1)) ?_
        refine r_goto 45 dX10_gains_41 (by decide) ?_
        refine r_iload dX10_gains_45 rfl ?_
        refine r_if_eq 61 dX10_gains_47 (by decide) (fun c47 => ?_) (fun c47 => ?_)
        · exact absurd c47 (by decide)
        · refine r_aload_n dX10_gains_50 rfl ?_
          refine r_getR dX10_gains_51 flX10_42 sh_0 (by decide) rfl (pf_0_7 hP) ?_
          refine r_iconst (v := 1) dX10_gains_54 (by decide) ?_
          refine r_cV1i dX10_gains_55 vlX10_368 (br_s _ hb56) (Nat.le_of_ble_eq_true rfl) (k_strandsOfSide hP hb56 ht hbt hv 1 (d + 1)) ?_
          refine r_goto 62 dX10_gains_58 (by decide) ?_
          refine r_ior dX10_gains_62 ?_
          refine r_istore6 dX10_gains_63 rfl ?_
          refine r_aload_n dX10_gains_65 rfl ?_
          refine r_getR dX10_gains_66 flX10_65 sh_0 (by decide) rfl (pf_0_15 hP) ?_
          refine r_aload_n dX10_gains_69 rfl ?_
          refine r_getR dX10_gains_70 flX10_42 sh_0 (by decide) rfl (pf_0_7 hP) ?_
          refine r_iload dX10_gains_73 rfl ?_
          refine r_cV2i dX10_gains_75 vlX10_297 sh_98 (Nat.le_of_ble_eq_true rfl) (k_without hP hb56 hv _ d) ?_
          refine r_iconst (v := 1) dX10_gains_78 (by decide) ?_
          refine r_ic_lt 86 dX10_gains_79 (by decide) (fun c79 => ?_) (fun c79 => ?_)
          · refine r_iconst (v := 0) dX10_gains_86 (by decide) ?_
            refine r_istore7 dX10_gains_87 rfl ?_
            refine r_iload_n dX10_gains_89 rfl ?_
            refine r_if_ne 98 dX10_gains_90 (by decide) (fun c90 => ?_) (fun c90 => ?_)
            · refine r_iload dX10_gains_98 rfl ?_
              refine r_istore8 dX10_gains_100 rfl ?_
              refine r_iload dX10_gains_102 rfl ?_
              refine r_if_eq 128 dX10_gains_104 (by decide) (fun c104 => ?_) (fun c104 => ?_)
              · exact absurd c104 (by decide)
              · refine r_iload dX10_gains_107 rfl ?_
                refine r_aload_n dX10_gains_109 rfl ?_
                refine r_getR dX10_gains_110 flX10_42 sh_0 (by decide) rfl (pf_0_7 hP) ?_
                refine r_aload_n dX10_gains_113 rfl ?_
                refine r_getR dX10_gains_114 flX10_42 sh_0 (by decide) rfl (pf_0_7 hP) ?_
                refine r_iload_n dX10_gains_117 rfl ?_
                refine r_cV1i dX10_gains_118 vlX10_368 (br_s _ hb56) (Nat.le_of_ble_eq_true rfl) (k_strandsOfSide hP hb56 ht hbt hv s (d + 1)) ?_
                refine r_cV1i dX10_gains_121 vlX10_371 (br_s _ hb56) (Nat.le_of_ble_eq_true rfl) (k_owedOn hP hb56 hv _ (d + 3)) ?_
                refine r_iadd dX10_gains_124 ?_
                refine r_goto 130 dX10_gains_125 (by decide) ?_
                exact r_iret dX10_gains_130 rfl rfl (by simp only [sGn, if_pos c4, if_pos c18, if_pos c79, if_neg c90]) rfl
            · refine r_iload dX10_gains_93 rfl ?_
              refine r_goto 100 dX10_gains_95 (by decide) ?_
              refine r_istore8 dX10_gains_100 rfl ?_
              refine r_iload dX10_gains_102 rfl ?_
              refine r_if_eq 128 dX10_gains_104 (by decide) (fun c104 => ?_) (fun c104 => ?_)
              · exact absurd c104 (by decide)
              · refine r_iload dX10_gains_107 rfl ?_
                refine r_aload_n dX10_gains_109 rfl ?_
                refine r_getR dX10_gains_110 flX10_42 sh_0 (by decide) rfl (pf_0_7 hP) ?_
                refine r_aload_n dX10_gains_113 rfl ?_
                refine r_getR dX10_gains_114 flX10_42 sh_0 (by decide) rfl (pf_0_7 hP) ?_
                refine r_iload_n dX10_gains_117 rfl ?_
                refine r_cV1i dX10_gains_118 vlX10_368 (br_s _ hb56) (Nat.le_of_ble_eq_true rfl) (k_strandsOfSide hP hb56 ht hbt hv s (d + 1)) ?_
                refine r_cV1i dX10_gains_121 vlX10_371 (br_s _ hb56) (Nat.le_of_ble_eq_true rfl) (k_owedOn hP hb56 hv _ (d + 3)) ?_
                refine r_iadd dX10_gains_124 ?_
                refine r_goto 130 dX10_gains_125 (by decide) ?_
                exact r_iret dX10_gains_130 rfl rfl (by simp only [sGn, if_pos c4, if_pos c18, if_pos c79, if_pos c90]) rfl
          · refine r_iload_n dX10_gains_82 rfl ?_
            refine r_goto 87 dX10_gains_83 (by decide) ?_
            refine r_istore7 dX10_gains_87 rfl ?_
            refine r_iload_n dX10_gains_89 rfl ?_
            refine r_if_ne 98 dX10_gains_90 (by decide) (fun c90 => ?_) (fun c90 => ?_)
            · refine r_iload dX10_gains_98 rfl ?_
              refine r_istore8 dX10_gains_100 rfl ?_
              refine r_iload dX10_gains_102 rfl ?_
              refine r_if_eq 128 dX10_gains_104 (by decide) (fun c104 => ?_) (fun c104 => ?_)
              · exact absurd c104 (by decide)
              · refine r_iload dX10_gains_107 rfl ?_
                refine r_aload_n dX10_gains_109 rfl ?_
                refine r_getR dX10_gains_110 flX10_42 sh_0 (by decide) rfl (pf_0_7 hP) ?_
                refine r_aload_n dX10_gains_113 rfl ?_
                refine r_getR dX10_gains_114 flX10_42 sh_0 (by decide) rfl (pf_0_7 hP) ?_
                refine r_iload_n dX10_gains_117 rfl ?_
                refine r_cV1i dX10_gains_118 vlX10_368 (br_s _ hb56) (Nat.le_of_ble_eq_true rfl) (k_strandsOfSide hP hb56 ht hbt hv s (d + 1)) ?_
                refine r_cV1i dX10_gains_121 vlX10_371 (br_s _ hb56) (Nat.le_of_ble_eq_true rfl) (k_owedOn hP hb56 hv _ (d + 3)) ?_
                refine r_iadd dX10_gains_124 ?_
                refine r_goto 130 dX10_gains_125 (by decide) ?_
                exact r_iret dX10_gains_130 rfl rfl (by simp only [sGn, if_pos c4, if_pos c18, if_neg c79, if_neg c90]) rfl
            · refine r_iload dX10_gains_93 rfl ?_
              refine r_goto 100 dX10_gains_95 (by decide) ?_
              refine r_istore8 dX10_gains_100 rfl ?_
              refine r_iload dX10_gains_102 rfl ?_
              refine r_if_eq 128 dX10_gains_104 (by decide) (fun c104 => ?_) (fun c104 => ?_)
              · exact absurd c104 (by decide)
              · refine r_iload dX10_gains_107 rfl ?_
                refine r_aload_n dX10_gains_109 rfl ?_
                refine r_getR dX10_gains_110 flX10_42 sh_0 (by decide) rfl (pf_0_7 hP) ?_
                refine r_aload_n dX10_gains_113 rfl ?_
                refine r_getR dX10_gains_114 flX10_42 sh_0 (by decide) rfl (pf_0_7 hP) ?_
                refine r_iload_n dX10_gains_117 rfl ?_
                refine r_cV1i dX10_gains_118 vlX10_368 (br_s _ hb56) (Nat.le_of_ble_eq_true rfl) (k_strandsOfSide hP hb56 ht hbt hv s (d + 1)) ?_
                refine r_cV1i dX10_gains_121 vlX10_371 (br_s _ hb56) (Nat.le_of_ble_eq_true rfl) (k_owedOn hP hb56 hv _ (d + 3)) ?_
                refine r_iadd dX10_gains_124 ?_
                refine r_goto 130 dX10_gains_125 (by decide) ?_
                exact r_iret dX10_gains_130 rfl rfl (by simp only [sGn, if_pos c4, if_pos c18, if_neg c79, if_pos c90]) rfl
set_option maxHeartbeats 2000000 in
theorem l_restBits {E : xCl} {ex : Bool} {I V : Nat → Nat → Int32} {J : Nat → Nat → Int64} {P : Nat → Nat → Nat} (hP : Pok P) {t : Nat} (ht : t ∈ TL) (hx5 : P 0 5 = t + 1) (hbt : P 56 0 = t + 1) {n : Nat} (hv : Vok V n) (w : Int32) (d : Nat) : ∀ j, j ≤ 4 → ∀ y4 y5, xR (xEx E ex (d + 5)) ex none yX10_restBits cX10_restBits (some .int) 15 [some (.ref 0), some (.int w), some (.int (sRb (fun s u => sGn V (I (t + 2)) (fun c => sWo V (I 99) (I 100) c n) n s u w) j)), some (.int (nI j)), y4, y5] [] (SH, wB I 56 V, J, P) (xEq (some (.int (sRb (fun s u => sGn V (I (t + 2)) (fun c => sWo V (I 99) (I 100) c n) n s u w) 4))) (SH, wB I 56 V, J, P)) := by
  refine r_for (fun j => ∀ y4 y5, xR (xEx E ex (d + 5)) ex none yX10_restBits cX10_restBits (some .int) 15 [some (.ref 0), some (.int w), some (.int (sRb (fun s u => sGn V (I (t + 2)) (fun c => sWo V (I 99) (I 100) c n) n s u w) j)), some (.int (nI j)), y4, y5] [] (SH, wB I 56 V, J, P) (xEq (some (.int (sRb (fun s u => sGn V (I (t + 2)) (fun c => sWo V (I 99) (I 100) c n) n s u w) 4))) (SH, wB I 56 V, J, P))) _ ?_ ?_
  · intro j hj ih y4 y5
    refine r_iload_n dX10_restBits_15 rfl ?_
    refine r_iconst (v := 4) dX10_restBits_16 (by decide) ?_
    refine r_ic_ge 94 dX10_restBits_17 (by decide) (fun c17 => ?_) (fun c17 => ?_)
    · exact absurd c17 (nI_ge (a := j) (b := 4) hj (by omega))
    · refine r_aload_n dX10_restBits_20 rfl ?_
      refine r_iconst (v := 0) dX10_restBits_21 (by decide) ?_
      refine r_iload_n dX10_restBits_22 rfl ?_
      refine r_iload_n dX10_restBits_23 rfl ?_
      refine r_cV3i dX10_restBits_24 vlX10_364 sh_0 (Nat.le_of_ble_eq_true rfl) (k_gains hP ht hx5 hbt hv 0 (nI j) w d) ?_
      refine r_aload_n dX10_restBits_27 rfl ?_
      refine r_iconst (v := 0) dX10_restBits_28 (by decide) ?_
      refine r_iload_n dX10_restBits_29 rfl ?_
      refine r_iconst (v := 2) dX10_restBits_30 (by decide) ?_
      refine r_ixor dX10_restBits_31 ?_
      refine r_iload_n dX10_restBits_32 rfl ?_
      refine r_cV3i dX10_restBits_33 vlX10_364 sh_0 (Nat.le_of_ble_eq_true rfl) (k_gains hP ht hx5 hbt hv 0 (nI j ^^^ 2) w d) ?_
      refine r_ic_lt 43 dX10_restBits_36 (by decide) (fun c36 => ?_) (fun c36 => ?_)
      · refine r_iconst (v := 0) dX10_restBits_43 (by decide) ?_
        refine r_istore4 dX10_restBits_44 rfl ?_
        refine r_aload_n dX10_restBits_46 rfl ?_
        refine r_iconst (v := 1) dX10_restBits_47 (by decide) ?_
        refine r_iload_n dX10_restBits_48 rfl ?_
        refine r_iload_n dX10_restBits_49 rfl ?_
        refine r_cV3i dX10_restBits_50 vlX10_364 sh_0 (Nat.le_of_ble_eq_true rfl) (k_gains hP ht hx5 hbt hv 1 (nI j) w d) ?_
        refine r_aload_n dX10_restBits_53 rfl ?_
        refine r_iconst (v := 1) dX10_restBits_54 (by decide) ?_
        refine r_iload_n dX10_restBits_55 rfl ?_
        refine r_iconst (v := 1) dX10_restBits_56 (by decide) ?_
        refine r_ixor dX10_restBits_57 ?_
        refine r_iload_n dX10_restBits_58 rfl ?_
        refine r_cV3i dX10_restBits_59 vlX10_364 sh_0 (Nat.le_of_ble_eq_true rfl) (k_gains hP ht hx5 hbt hv 1 (nI j ^^^ 1) w d) ?_
        refine r_ic_lt 69 dX10_restBits_62 (by decide) (fun c62 => ?_) (fun c62 => ?_)
        · refine r_iconst (v := 0) dX10_restBits_69 (by decide) ?_
          refine r_istore5 dX10_restBits_70 rfl ?_
          refine r_iload dX10_restBits_72 rfl ?_
          refine r_if_eq 88 dX10_restBits_74 (by decide) (fun c74 => ?_) (fun c74 => ?_)
          · refine r_iinc3 (v := 1) dX10_restBits_88 (by decide) rfl ?_
            refine r_goto 15 dX10_restBits_91 (by decide) ?_
            rw [nI_1]; rw [sRb, if_neg (fun z => z.1 c36)] at ih; exact ih _ _
          · exact absurd c74 (by decide)
        · refine r_iconst (v := 1) dX10_restBits_65 (by decide) ?_
          refine r_goto 70 dX10_restBits_66 (by decide) ?_
          refine r_istore5 dX10_restBits_70 rfl ?_
          refine r_iload dX10_restBits_72 rfl ?_
          refine r_if_eq 88 dX10_restBits_74 (by decide) (fun c74 => ?_) (fun c74 => ?_)
          · refine r_iinc3 (v := 1) dX10_restBits_88 (by decide) rfl ?_
            refine r_goto 15 dX10_restBits_91 (by decide) ?_
            rw [nI_1]; rw [sRb, if_neg (fun z => z.1 c36)] at ih; exact ih _ _
          · exact absurd c74 (by decide)
      · refine r_iconst (v := 1) dX10_restBits_39 (by decide) ?_
        refine r_goto 44 dX10_restBits_40 (by decide) ?_
        refine r_istore4 dX10_restBits_44 rfl ?_
        refine r_aload_n dX10_restBits_46 rfl ?_
        refine r_iconst (v := 1) dX10_restBits_47 (by decide) ?_
        refine r_iload_n dX10_restBits_48 rfl ?_
        refine r_iload_n dX10_restBits_49 rfl ?_
        refine r_cV3i dX10_restBits_50 vlX10_364 sh_0 (Nat.le_of_ble_eq_true rfl) (k_gains hP ht hx5 hbt hv 1 (nI j) w d) ?_
        refine r_aload_n dX10_restBits_53 rfl ?_
        refine r_iconst (v := 1) dX10_restBits_54 (by decide) ?_
        refine r_iload_n dX10_restBits_55 rfl ?_
        refine r_iconst (v := 1) dX10_restBits_56 (by decide) ?_
        refine r_ixor dX10_restBits_57 ?_
        refine r_iload_n dX10_restBits_58 rfl ?_
        refine r_cV3i dX10_restBits_59 vlX10_364 sh_0 (Nat.le_of_ble_eq_true rfl) (k_gains hP ht hx5 hbt hv 1 (nI j ^^^ 1) w d) ?_
        refine r_ic_lt 69 dX10_restBits_62 (by decide) (fun c62 => ?_) (fun c62 => ?_)
        · refine r_iconst (v := 0) dX10_restBits_69 (by decide) ?_
          refine r_istore5 dX10_restBits_70 rfl ?_
          refine r_iload dX10_restBits_72 rfl ?_
          refine r_if_eq 88 dX10_restBits_74 (by decide) (fun c74 => ?_) (fun c74 => ?_)
          · exact absurd c74 (by decide)
          · refine r_iload dX10_restBits_77 rfl ?_
            refine r_if_eq 88 dX10_restBits_79 (by decide) (fun c79 => ?_) (fun c79 => ?_)
            · refine r_iinc3 (v := 1) dX10_restBits_88 (by decide) rfl ?_
              refine r_goto 15 dX10_restBits_91 (by decide) ?_
              rw [nI_1]; rw [sRb, if_neg (fun z => z.2 c62)] at ih; exact ih _ _
            · exact absurd c79 (by decide)
        · refine r_iconst (v := 1) dX10_restBits_65 (by decide) ?_
          refine r_goto 70 dX10_restBits_66 (by decide) ?_
          refine r_istore5 dX10_restBits_70 rfl ?_
          refine r_iload dX10_restBits_72 rfl ?_
          refine r_if_eq 88 dX10_restBits_74 (by decide) (fun c74 => ?_) (fun c74 => ?_)
          · exact absurd c74 (by decide)
          · refine r_iload dX10_restBits_77 rfl ?_
            refine r_if_eq 88 dX10_restBits_79 (by decide) (fun c79 => ?_) (fun c79 => ?_)
            · exact absurd c79 (by decide)
            · refine r_iload_n dX10_restBits_82 rfl ?_
              refine r_iconst (v := 1) dX10_restBits_83 (by decide) ?_
              refine r_iload_n dX10_restBits_84 rfl ?_
              refine r_ishl dX10_restBits_85 ?_
              refine r_ior dX10_restBits_86 ?_
              refine r_istore_n2 dX10_restBits_87 rfl ?_
              refine r_iinc3 (v := 1) dX10_restBits_88 (by decide) rfl ?_
              refine r_goto 15 dX10_restBits_91 (by decide) ?_
              rw [nI_1]; rw [sRb, if_pos ⟨c36, c62⟩] at ih; exact ih _ _
  · intro y4 y5
    refine r_iload_n dX10_restBits_15 rfl ?_
    refine r_iconst (v := 4) dX10_restBits_16 (by decide) ?_
    refine r_ic_ge 94 dX10_restBits_17 (by decide) (fun c17 => ?_) (fun c17 => ?_)
    · refine r_iload_n dX10_restBits_94 rfl ?_
      exact r_iret dX10_restBits_95 rfl rfl rfl rfl
    · exact absurd (by decide) c17
/-- what the weights are worth when what is now was weighed -/
def sWw (V : Nat → Nat → Int32) (Lw : Nat → (Nat → Int64) → Int64) (n : Nat) : Int32 → Int32 := fun c => sWo V (gS V Lw) (gT V Lw) c n
theorem sWw_eq {V I : Nat → Nat → Int32} {n : Nat} (hv : Vok V n) (Lw : Nat → (Nat → Int64) → Int64) : (fun c => sWo V (wRw I (gS V Lw) (gT V Lw) n 99) (wRw I (gS V Lw) (gT V Lw) n 100) c n) = sWw V Lw n := by
  funext c
  exact sWo_eq hv (fun k hk => by simp [wRw, hk]) (fun k hk => by simp [wRw, hk]) c n (Nat.le_refl _)
theorem Qj.of {E : xCl} {ex : Bool} {d : Nat} {y : MethodName} {vs : List Value} {S : xS} {I' : Nat → Nat → Int32} {J : Nat → Nat → Int64} {P : Nat → Nat → Nat} {t : Nat} {r : Option Value} {J' : Nat → Nat → Int64} (h : xR (xEx E ex d) ex none y (ByteArray.mk #[]) none 0 [] [] S (xEq r (SH, I', J', P))) : True := trivial
theorem xR_q {call : xCl} {ex : Bool} {X : Option (Nat × (Nat → Int32))} {y : MethodName} {cc : ByteArray} {ret : Option FieldType} {pc : Nat} {ls : List (Option Value)} {st : List Value} {S : xS} {Q Q' : Option Value → xS → Prop} (h : xR call ex X y cc ret pc ls st S Q) (hq : ∀ r S1, Q r S1 → Q' r S1) : xR call ex X y cc ret pc ls st S Q' := by
  obtain ⟨n, r, S1, h1, h2⟩ := h
  exact ⟨n, r, S1, h1, hq _ _ h2⟩
theorem xEq_Qj {I' : Nat → Nat → Int32} {J J' : Nat → Nat → Int64} {P : Nat → Nat → Nat} {t : Nat} {r : Option Value} (h : Jok J J' t) : ∀ r1 S1, xEq r (SH, I', J', P) r1 S1 → Qj I' J P t r r1 S1 := fun r1 S1 z => ⟨z.1, J', z.2, h⟩
set_option maxHeartbeats 2000000 in
theorem k_restBits {E : xCl} {ex : Bool} {I V : Nat → Nat → Int32} {J : Nat → Nat → Int64} {P : Nat → Nat → Nat} (hP : Pok P) {t : Nat} (ht : t ∈ TL) (hx5 : P 0 5 = t + 1) (hbt : P 56 0 = t + 1) {n : Nat} (hv : Vok V n) (hL : Lok I t) (w : Int32) (d : Nat) : ∃ J', xEx E ex (d + 7) yX10_restBits [.ref 0, .int w] (SH, wB I 56 V, J, P) (some (.int (sRb (fun s u => sGn V (I (t + 2)) (sWw V (Lv I t) n) n s u w) 4))) (SH, wB (wRw I (gS V (Lv I t)) (gT V (Lv I t)) n) 56 V, J', P) ∧ Jok J J' t := by
  refine Qj.use (x_enterq (d := d + 6) cqX10_restBits [some (.ref 0), some (.int w), none, none, none, none] rfl (by simp [lg_sl, Value.category]) ?_)
  refine r_aload_n dX10_restBits_0 rfl ?_
  refine r_getR dX10_restBits_1 flX10_65 sh_0 (by decide) rfl (pf_0_15 hP) ?_
  refine r_aload_n dX10_restBits_4 rfl ?_
  refine r_getR dX10_restBits_5 flX10_42 sh_0 (by decide) rfl (pf_0_7 hP) ?_
  obtain ⟨J8, hx8, hj8⟩ := k_weigh (E := E) (ex := ex) (J := J) hP hb56 ht hbt hv hL (d + 0)
  refine r_cV1v dX10_restBits_8 vlX10_294 sh_98 (Nat.le_of_ble_eq_true rfl) hx8 ?_
  refine r_iconst (v := 0) dX10_restBits_11 (by decide) ?_
  refine r_istore_n2 dX10_restBits_12 rfl ?_
  refine r_iconst (v := 0) dX10_restBits_13 (by decide) ?_
  refine r_istore_n3 dX10_restBits_14 rfl ?_
  have z := l_restBits (E := E) (ex := ex) (I := (wRw I (gS V (Lv I t)) (gT V (Lv I t)) n)) (J := J8) hP ht hx5 hbt hv w (d + 1) 0 (by decide) none none; rw [sWw_eq hv, show (wRw I (gS V (Lv I t)) (gT V (Lv I t)) n) (t + 2) = I (t + 2) from funext (fun k => wRw_t ht 2 k (by omega))] at z; exact xR_q z (xEq_Qj hj8)
abbrev okU (w : Int32) : Prop := ¬ w < 0 ∧ w ≤ 9999
set_option maxHeartbeats 1000000 in
theorem k_rests_n {E : xCl} {ex : Bool} {I V : Nat → Nat → Int32} {J : Nat → Nat → Int64} {P : Nat → Nat → Nat} {w : Int32} (h : ¬ okU w) (d : Nat) : xEx E ex (d + 1) yX10_rests [.ref 0, .int w] (SH, wB I 56 V, J, P) (some (.int (-1))) (SH, wB I 56 V, J, P) := by
  refine x_enter cqX10_rests [some (.ref 0), some (.int w)] rfl (by simp [lg_sl, Value.category]) ?_
  refine r_iload_n dX10_rests_0 rfl ?_
  refine r_if_lt 11 dX10_rests_1 (by decide) (fun c1 => ?_) (fun c1 => ?_)
  · refine r_iconst (v := (-1)) dX10_rests_11 (by decide) ?_
    exact r_iret dX10_rests_12 rfl rfl rfl rfl
  · refine r_iload_n dX10_rests_4 rfl ?_
    refine r_sipush (v := 9999) dX10_rests_5 (by decide) ?_
    refine r_ic_le 13 dX10_rests_8 (by decide) (fun c8 => ?_) (fun c8 => ?_)
    · exact absurd ⟨c1, c8⟩ h
    · refine r_iconst (v := (-1)) dX10_rests_11 (by decide) ?_
      exact r_iret dX10_rests_12 rfl rfl rfl rfl
set_option maxHeartbeats 1000000 in
theorem k_rests {E : xCl} {ex : Bool} {I V : Nat → Nat → Int32} {J : Nat → Nat → Int64} {P : Nat → Nat → Nat} (hP : Pok P) {t : Nat} (ht : t ∈ TL) (hx5 : P 0 5 = t + 1) (hbt : P 56 0 = t + 1) {n : Nat} (hv : Vok V n) (hL : Lok I t) {w : Int32} (h : okU w) (d : Nat) : ∃ J', xEx E ex (d + 8) yX10_rests [.ref 0, .int w] (SH, wB I 56 V, J, P) (some (.int (bC (sRb (fun s u => sGn V (I (t + 2)) (sWw V (Lv I t) n) n s u w) 4)))) (SH, wB (wRw I (gS V (Lv I t)) (gT V (Lv I t)) n) 56 V, J', P) ∧ Jok J J' t := by
  refine Qj.use (x_enterq (d := d + 7) cqX10_rests [some (.ref 0), some (.int w)] rfl (by simp [lg_sl, Value.category]) ?_)
  refine r_iload_n dX10_rests_0 rfl ?_
  refine r_if_lt 11 dX10_rests_1 (by decide) (fun c1 => ?_) (fun c1 => ?_)
  · exact absurd c1 h.1
  · refine r_iload_n dX10_rests_4 rfl ?_
    refine r_sipush (v := 9999) dX10_rests_5 (by decide) ?_
    refine r_ic_le 13 dX10_rests_8 (by decide) (fun c8 => ?_) (fun c8 => ?_)
    · refine r_aload_n dX10_rests_13 rfl ?_
      refine r_iload_n dX10_rests_14 rfl ?_
      obtain ⟨J15, hx15, hj15⟩ := k_restBits (E := E) (ex := ex) (J := J) hP ht hx5 hbt hv hL w d
      refine r_cV1i dX10_rests_15 vlX10_361 sh_0 (Nat.le_of_ble_eq_true rfl) hx15 ?_
      refine r_cS1i dX10_rests_18 slX10_282 (Nat.le_of_ble_eq_true rfl) (k_bitCount _ (d + 6)) ?_
      exact r_iretq dX10_rests_21 rfl rfl (Qj.mk hj15)
    · exact absurd h.2 c8
set_option maxHeartbeats 1000000 in
theorem k_rest_n {E : xCl} {ex : Bool} {I V : Nat → Nat → Int32} {J : Nat → Nat → Int64} {P : Nat → Nat → Nat} {w k : Int32} (h : ¬ (okU w ∧ ¬ k < 0)) (d : Nat) : xEx E ex (d + 1) yX10_rest [.ref 0, .int w, .int k] (SH, wB I 56 V, J, P) (some (.int (-1))) (SH, wB I 56 V, J, P) := by
  refine x_enter cqX10_rest [some (.ref 0), some (.int w), some (.int k), none, none, none] rfl (by simp [lg_sl, Value.category]) ?_
  refine r_iload_n dX10_rest_0 rfl ?_
  refine r_if_lt 15 dX10_rest_1 (by decide) (fun c1 => ?_) (fun c1 => ?_)
  · refine r_iconst (v := (-1)) dX10_rest_15 (by decide) ?_
    exact r_iret dX10_rest_16 rfl rfl rfl rfl
  · refine r_iload_n dX10_rest_4 rfl ?_
    refine r_sipush (v := 9999) dX10_rest_5 (by decide) ?_
    refine r_ic_gt 15 dX10_rest_8 (by decide) (fun c8 => ?_) (fun c8 => ?_)
    · refine r_iconst (v := (-1)) dX10_rest_15 (by decide) ?_
      exact r_iret dX10_rest_16 rfl rfl rfl rfl
    · refine r_iload_n dX10_rest_11 rfl ?_
      refine r_if_ge 17 dX10_rest_12 (by decide) (fun c12 => ?_) (fun c12 => ?_)
      · exact absurd ⟨⟨c1, Int32.not_lt.mp c8⟩, fun z => absurd c12 (Int32.not_le.mpr z)⟩ h
      · refine r_iconst (v := (-1)) dX10_rest_15 (by decide) ?_
        exact r_iret dX10_rest_16 rfl rfl rfl rfl
theorem l_rest {E : xCl} {ex : Bool} {I : Nat → Nat → Int32} {J : Nat → Nat → Int64} {P : Nat → Nat → Nat} (w k b : Int32) (d : Nat) : ∀ c j p, j + c = 4 → xR (xEx E ex (d + 7)) ex none yX10_rest cX10_rest (some .int) 29 [some (.ref 0), some (.int w), some (.int k), some (.int b), some (.int p), some (.int (nI j))] [] (SH, I, J, P) (xEq (some (.int (sRs b k c j p))) (SH, I, J, P)) := by
  intro c
  induction c with
  | zero =>
    intro j p hj
    refine r_iload dX10_rest_29 rfl ?_
    refine r_iconst (v := 4) dX10_rest_31 (by decide) ?_
    refine r_ic_ge 73 dX10_rest_32 (by decide) (fun c32 => ?_) (fun c32 => ?_)
    · refine r_bipush (v := (-2)) dX10_rest_73 (by decide) ?_
      exact r_iret dX10_rest_75 rfl rfl rfl rfl
    · exact absurd (by rw [show j = 4 by omega]; decide) c32
  | succ c ih =>
    intro j p hj
    refine r_iload dX10_rest_29 rfl ?_
    refine r_iconst (v := 4) dX10_rest_31 (by decide) ?_
    refine r_ic_ge 73 dX10_rest_32 (by decide) (fun c32 => ?_) (fun c32 => ?_)
    · exact absurd c32 (nI_ge (a := j) (b := 4) (by omega) (by omega))
    · refine r_iload_n dX10_rest_35 rfl ?_
      refine r_iload dX10_rest_36 rfl ?_
      refine r_ishr dX10_rest_38 ?_
      refine r_iconst (v := 1) dX10_rest_39 (by decide) ?_
      refine r_iand dX10_rest_40 ?_
      refine r_iconst (v := 1) dX10_rest_41 (by decide) ?_
      refine r_ic_ne 67 dX10_rest_42 (by decide) (fun c42 => ?_) (fun c42 => ?_)
      · refine r_iinc5 (v := 1) dX10_rest_67 (by decide) rfl ?_
        refine r_goto 29 dX10_rest_70 (by decide) ?_
        rw [nI_1]; rw [sRs, if_neg c42]; exact ih (j + 1) _ (by omega)
      · refine r_iload dX10_rest_45 rfl ?_
        refine r_iload_n dX10_rest_47 rfl ?_
        refine r_ic_ne 64 dX10_rest_48 (by decide) (fun c48 => ?_) (fun c48 => ?_)
        · refine r_iinc4 (v := 1) dX10_rest_64 (by decide) rfl ?_
          refine r_iinc5 (v := 1) dX10_rest_67 (by decide) rfl ?_
          refine r_goto 29 dX10_rest_70 (by decide) ?_
          rw [nI_1]; rw [sRs, if_pos c42, if_neg c48]; exact ih (j + 1) _ (by omega)
        · refine r_iload dX10_rest_51 rfl ?_
          refine r_iconst (v := 2) dX10_rest_53 (by decide) ?_
          refine r_idiv dX10_rest_54 (by decide) ?_
          refine r_bipush (v := 10) dX10_rest_55 (by decide) ?_
          refine r_imul dX10_rest_57 ?_
          refine r_iload dX10_rest_58 rfl ?_
          refine r_iconst (v := 2) dX10_rest_60 (by decide) ?_
          refine r_irem dX10_rest_61 (by decide) ?_
          refine r_iadd dX10_rest_62 ?_
          exact r_iret dX10_rest_63 rfl rfl (by rw [sRs, if_pos c42, if_pos c48]) rfl
set_option maxHeartbeats 1000000 in
theorem k_rest {E : xCl} {ex : Bool} {I V : Nat → Nat → Int32} {J : Nat → Nat → Int64} {P : Nat → Nat → Nat} (hP : Pok P) {t : Nat} (ht : t ∈ TL) (hx5 : P 0 5 = t + 1) (hbt : P 56 0 = t + 1) {n : Nat} (hv : Vok V n) (hL : Lok I t) {w k : Int32} (h : okU w ∧ ¬ k < 0) (d : Nat) : ∃ J', xEx E ex (d + 8) yX10_rest [.ref 0, .int w, .int k] (SH, wB I 56 V, J, P) (some (.int (sRs (sRb (fun s u => sGn V (I (t + 2)) (sWw V (Lv I t) n) n s u w) 4) k 4 0 0))) (SH, wB (wRw I (gS V (Lv I t)) (gT V (Lv I t)) n) 56 V, J', P) ∧ Jok J J' t := by
  refine Qj.use (x_enterq (d := d + 7) cqX10_rest [some (.ref 0), some (.int w), some (.int k), none, none, none] rfl (by simp [lg_sl, Value.category]) ?_)
  refine r_iload_n dX10_rest_0 rfl ?_
  refine r_if_lt 15 dX10_rest_1 (by decide) (fun c1 => ?_) (fun c1 => ?_)
  · exact absurd c1 h.1.1
  · refine r_iload_n dX10_rest_4 rfl ?_
    refine r_sipush (v := 9999) dX10_rest_5 (by decide) ?_
    refine r_ic_gt 15 dX10_rest_8 (by decide) (fun c8 => ?_) (fun c8 => ?_)
    · exact absurd c8 (Int32.not_lt.mpr h.1.2)
    · refine r_iload_n dX10_rest_11 rfl ?_
      refine r_if_ge 17 dX10_rest_12 (by decide) (fun c12 => ?_) (fun c12 => ?_)
      · refine r_aload_n dX10_rest_17 rfl ?_
        refine r_iload_n dX10_rest_18 rfl ?_
        obtain ⟨J19, hx19, hj19⟩ := k_restBits (E := E) (ex := ex) (J := J) hP ht hx5 hbt hv hL w d
        refine r_cV1i dX10_rest_19 vlX10_361 sh_0 (Nat.le_of_ble_eq_true rfl) hx19 ?_
        refine r_istore_n3 dX10_rest_22 rfl ?_
        refine r_iconst (v := 0) dX10_rest_23 (by decide) ?_
        refine r_istore4 dX10_rest_24 rfl ?_
        refine r_iconst (v := 0) dX10_rest_26 (by decide) ?_
        refine r_istore5 dX10_rest_27 rfl ?_
        exact xR_q (l_rest w k _ d 4 0 0 (by omega)) (xEq_Qj hj19)
      · exact absurd (Int32.not_lt.mp h.2) c12
theorem sTB_nI (V : Nat → Nat → Int32) : ∀ n, n < 31 → ∃ q, sTB V n = nI q ∧ q < 2 ^ n
  | 0, _ => ⟨0, rfl, by decide⟩
  | n + 1, h => by
    obtain ⟨q, e, hq⟩ := sTB_nI V n (by omega)
    unfold sTB
    have h2 : 2 ^ n < 2 ^ (n + 1) := Nat.pow_lt_pow_right (by decide) (by omega)
    split
    · refine ⟨q ||| 2 ^ n, ?_, or_lt (by omega) h2⟩
      rw [e, bz_shl n (by omega), bz_or]
    · exact ⟨q, e, by omega⟩
def sFc (T : Int32) (Wf : Int32 → Int32) (w : Int32) : Nat → Int32 × Int32
  | 0 => (13, -2)
  | c + 1 => if nI (c + 1) &&& (T ^^^ (-1)) = 0 ∧ bC (nI (c + 1)) < (sFc T Wf w c).1 ∧ Wf (nI (c + 1)) < w then (bC (nI (c + 1)), nI (c + 1)) else sFc T Wf w c
theorem sFc_t {T : Int32} {Wf : Int32 → Int32} {w : Int32} {c : Nat} (h : nI (c + 1) &&& (T ^^^ (-1)) = 0 ∧ bC (nI (c + 1)) < (sFc T Wf w c).1 ∧ Wf (nI (c + 1)) < w) : sFc T Wf w (c + 1) = (bC (nI (c + 1)), nI (c + 1)) := by rw [sFc, if_pos h]
theorem sFc_f {T : Int32} {Wf : Int32 → Int32} {w : Int32} {c : Nat} (h : ¬ (nI (c + 1) &&& (T ^^^ (-1)) = 0 ∧ bC (nI (c + 1)) < (sFc T Wf w c).1 ∧ Wf (nI (c + 1)) < w)) : sFc T Wf w (c + 1) = sFc T Wf w c := by rw [sFc, if_neg h]
set_option maxHeartbeats 2000000 in
theorem l_fewest {E : xCl} {ex : Bool} {I V : Nat → Nat → Int32} {J : Nat → Nat → Int64} {P : Nat → Nat → Nat} (hP : Pok P) {t : Nat} (ht : t ∈ TL) (hx5 : P 0 5 = t + 1) (hbt : P 56 0 = t + 1) {n : Nat} (hv : Vok V n) {q : Nat} (hq : q < 2 ^ 12) (w : Int32) (d : Nat) : ∀ j, j ≤ q → ∀ y6, xR (xEx E ex (d + 4)) ex none yX10_fewestCuts cX10_fewestCuts (some .int) 18 [some (.ref 0), some (.int w), some (.int (nI q)), some (.int (sFc (nI q) (fun c => sWo V (I 99) (I 100) c n) w j).1), some (.int (sFc (nI q) (fun c => sWo V (I 99) (I 100) c n) w j).2), some (.int (nI (j + 1))), y6] [] (SH, wB I 56 V, J, P) (xEq (some (.int (sFc (nI q) (fun c => sWo V (I 99) (I 100) c n) w q).2)) (SH, wB I 56 V, J, P)) := by
  refine r_for (fun j => ∀ y6, xR (xEx E ex (d + 4)) ex none yX10_fewestCuts cX10_fewestCuts (some .int) 18 [some (.ref 0), some (.int w), some (.int (nI q)), some (.int (sFc (nI q) (fun c => sWo V (I 99) (I 100) c n) w j).1), some (.int (sFc (nI q) (fun c => sWo V (I 99) (I 100) c n) w j).2), some (.int (nI (j + 1))), y6] [] (SH, wB I 56 V, J, P) (xEq (some (.int (sFc (nI q) (fun c => sWo V (I 99) (I 100) c n) w q).2)) (SH, wB I 56 V, J, P))) _ ?_ ?_
  · intro j hj ih y6
    refine r_iload dX10_fewestCuts_18 rfl ?_
    refine r_iload_n dX10_fewestCuts_20 rfl ?_
    refine r_ic_gt 87 dX10_fewestCuts_21 (by decide) (fun c21 => ?_) (fun c21 => ?_)
    · exact absurd c21 (nI_nlt (a := q) (b := j + 1) (by omega) (by omega))
    · refine r_iload dX10_fewestCuts_24 rfl ?_
      refine r_iload_n dX10_fewestCuts_26 rfl ?_
      refine r_iconst (v := (-1)) dX10_fewestCuts_27 (by decide) ?_
      refine r_ixor dX10_fewestCuts_28 ?_
      refine r_iand dX10_fewestCuts_29 ?_
      refine r_if_ne 46 dX10_fewestCuts_30 (by decide) (fun c30 => ?_) (fun c30 => ?_)
      · refine r_iconst (v := 0) dX10_fewestCuts_46 (by decide) ?_
        refine r_istore6 dX10_fewestCuts_47 rfl ?_
        refine r_iload dX10_fewestCuts_49 rfl ?_
        refine r_if_eq 81 dX10_fewestCuts_51 (by decide) (fun c51 => ?_) (fun c51 => ?_)
        · refine r_iinc5 (v := 1) dX10_fewestCuts_81 (by decide) rfl ?_
          refine r_goto 18 dX10_fewestCuts_84 (by decide) ?_
          rw [nI_1]; have z := ih; rw [sFc_f (T := nI q) (Wf := (fun c => sWo V (I 99) (I 100) c n)) (w := w) (c := j) (fun z => c30 z.1)] at z; exact z _
        · exact absurd c51 (by decide)
      · refine r_iload dX10_fewestCuts_33 rfl ?_
        refine r_cS1i dX10_fewestCuts_35 slX10_282 (Nat.le_of_ble_eq_true rfl) (k_bitCount _ (d + 3)) ?_
        refine r_iload_n dX10_fewestCuts_38 rfl ?_
        refine r_ic_ge 46 dX10_fewestCuts_39 (by decide) (fun c39 => ?_) (fun c39 => ?_)
        · refine r_iconst (v := 0) dX10_fewestCuts_46 (by decide) ?_
          refine r_istore6 dX10_fewestCuts_47 rfl ?_
          refine r_iload dX10_fewestCuts_49 rfl ?_
          refine r_if_eq 81 dX10_fewestCuts_51 (by decide) (fun c51 => ?_) (fun c51 => ?_)
          · refine r_iinc5 (v := 1) dX10_fewestCuts_81 (by decide) rfl ?_
            refine r_goto 18 dX10_fewestCuts_84 (by decide) ?_
            rw [nI_1]; have z := ih; rw [sFc_f (T := nI q) (Wf := (fun c => sWo V (I 99) (I 100) c n)) (w := w) (c := j) (fun z => Int32.not_lt.mpr c39 z.2.1)] at z; exact z _
          · exact absurd c51 (by decide)
        · refine r_iconst (v := 1) dX10_fewestCuts_42 (by decide) ?_
          refine r_goto 47 dX10_fewestCuts_43 (by decide) ?_
          refine r_istore6 dX10_fewestCuts_47 rfl ?_
          refine r_iload dX10_fewestCuts_49 rfl ?_
          refine r_if_eq 81 dX10_fewestCuts_51 (by decide) (fun c51 => ?_) (fun c51 => ?_)
          · exact absurd c51 (by decide)
          · refine r_aload_n dX10_fewestCuts_54 rfl ?_
            refine r_getR dX10_fewestCuts_55 flX10_65 sh_0 (by decide) rfl (pf_0_15 hP) ?_
            refine r_aload_n dX10_fewestCuts_58 rfl ?_
            refine r_getR dX10_fewestCuts_59 flX10_42 sh_0 (by decide) rfl (pf_0_7 hP) ?_
            refine r_iload dX10_fewestCuts_62 rfl ?_
            refine r_cV2i dX10_fewestCuts_64 vlX10_297 sh_98 (Nat.le_of_ble_eq_true rfl) (k_without hP hb56 hv _ d) ?_
            refine r_iload_n dX10_fewestCuts_67 rfl ?_
            refine r_ic_ge 81 dX10_fewestCuts_68 (by decide) (fun c68 => ?_) (fun c68 => ?_)
            · refine r_iinc5 (v := 1) dX10_fewestCuts_81 (by decide) rfl ?_
              refine r_goto 18 dX10_fewestCuts_84 (by decide) ?_
              rw [nI_1]; have z := ih; rw [sFc_f (T := nI q) (Wf := (fun c => sWo V (I 99) (I 100) c n)) (w := w) (c := j) (fun z => Int32.not_lt.mpr c68 z.2.2)] at z; exact z _
            · refine r_iload dX10_fewestCuts_71 rfl ?_
              refine r_cS1i dX10_fewestCuts_73 slX10_282 (Nat.le_of_ble_eq_true rfl) (k_bitCount _ (d + 3)) ?_
              refine r_istore_n3 dX10_fewestCuts_76 rfl ?_
              refine r_iload dX10_fewestCuts_77 rfl ?_
              refine r_istore4 dX10_fewestCuts_79 rfl ?_
              refine r_iinc5 (v := 1) dX10_fewestCuts_81 (by decide) rfl ?_
              refine r_goto 18 dX10_fewestCuts_84 (by decide) ?_
              rw [nI_1]; have z := ih; rw [sFc_t (T := nI q) (Wf := (fun c => sWo V (I 99) (I 100) c n)) (w := w) (c := j) ⟨c30, Int32.not_le.mp c39, Int32.not_le.mp c68⟩] at z; exact z _
  · intro y6
    refine r_iload dX10_fewestCuts_18 rfl ?_
    refine r_iload_n dX10_fewestCuts_20 rfl ?_
    refine r_ic_gt 87 dX10_fewestCuts_21 (by decide) (fun c21 => ?_) (fun c21 => ?_)
    · refine r_iload dX10_fewestCuts_87 rfl ?_
      exact r_iret dX10_fewestCuts_89 rfl rfl rfl rfl
    · exact absurd (nI_lt (a := q) (b := q + 1) (by omega) (by omega)) c21
set_option maxHeartbeats 1000000 in
theorem k_fewestCuts {E : xCl} {ex : Bool} {I V : Nat → Nat → Int32} {J : Nat → Nat → Int64} {P : Nat → Nat → Nat} (hP : Pok P) {t : Nat} (ht : t ∈ TL) (hx5 : P 0 5 = t + 1) (hbt : P 56 0 = t + 1) {n : Nat} (hv : Vok V n) {q : Nat} (hq : q < 2 ^ 12) (hT : sTB V n = nI q) (w : Int32) (d : Nat) : xEx E ex (d + 5) yX10_fewestCuts [.ref 0, .int w] (SH, wB I 56 V, J, P) (some (.int (sFc (nI q) (fun c => sWo V (I 99) (I 100) c n) w q).2)) (SH, wB I 56 V, J, P) := by
  refine x_enter cqX10_fewestCuts [some (.ref 0), some (.int w), none, none, none, none, none] rfl (by simp [lg_sl, Value.category]) ?_
  refine r_aload_n dX10_fewestCuts_0 rfl ?_
  refine r_getR dX10_fewestCuts_1 flX10_42 sh_0 (by decide) rfl (pf_0_7 hP) ?_
  refine r_cV0i dX10_fewestCuts_4 vlX10_279 (br_s _ hb56) (Nat.le_of_ble_eq_true rfl) (by have z := k_thereBits (E := E) (ex := ex) (I := I) (J := J) hP hb56 hv (d + 1); rw [hT] at z; exact z) ?_
  refine r_istore_n2 dX10_fewestCuts_7 rfl ?_
  refine r_bipush (v := 13) dX10_fewestCuts_8 (by decide) ?_
  refine r_istore_n3 dX10_fewestCuts_10 rfl ?_
  refine r_bipush (v := (-2)) dX10_fewestCuts_11 (by decide) ?_
  refine r_istore4 dX10_fewestCuts_13 rfl ?_
  refine r_iconst (v := 1) dX10_fewestCuts_15 (by decide) ?_
  refine r_istore5 dX10_fewestCuts_16 rfl ?_
  exact l_fewest hP ht hx5 hbt hv hq w d 0 (Nat.zero_le _) none
set_option maxHeartbeats 1000000 in
theorem k_drop_n {E : xCl} {ex : Bool} {I V : Nat → Nat → Int32} {J : Nat → Nat → Int64} {P : Nat → Nat → Nat} {w : Int32} (h : ¬ okL w) (d : Nat) : xEx E ex (d + 1) yX10_drop [.ref 0, .int w] (SH, wB I 56 V, J, P) (some (.int (-1))) (SH, wB I 56 V, J, P) := by
  refine x_enter cqX10_drop [some (.ref 0), some (.int w)] rfl (by simp [lg_sl, Value.category]) ?_
  refine r_iload_n dX10_drop_0 rfl ?_
  refine r_iconst (v := 1) dX10_drop_1 (by decide) ?_
  refine r_ic_lt 12 dX10_drop_2 (by decide) (fun c2 => ?_) (fun c2 => ?_)
  · refine r_iconst (v := (-1)) dX10_drop_12 (by decide) ?_
    exact r_iret dX10_drop_13 rfl rfl rfl rfl
  · refine r_iload_n dX10_drop_5 rfl ?_
    refine r_sipush (v := 9999) dX10_drop_6 (by decide) ?_
    refine r_ic_le 14 dX10_drop_9 (by decide) (fun c9 => ?_) (fun c9 => ?_)
    · exact absurd ⟨c2, c9⟩ h
    · refine r_iconst (v := (-1)) dX10_drop_12 (by decide) ?_
      exact r_iret dX10_drop_13 rfl rfl rfl rfl
set_option maxHeartbeats 2000000 in
theorem k_drop {E : xCl} {ex : Bool} {I V : Nat → Nat → Int32} {J : Nat → Nat → Int64} {P : Nat → Nat → Nat} (hP : Pok P) {t : Nat} (ht : t ∈ TL) (hx5 : P 0 5 = t + 1) (hbt : P 56 0 = t + 1) {n : Nat} (hv : Vok V n) (hL : Lok I t) {q : Nat} (hq : q < 2 ^ 12) (hT : sTB V n = nI q) {w : Int32} (h : okL w) (d : Nat) : ∃ J', xEx E ex (d + 7) yX10_drop [.ref 0, .int w] (SH, wB I 56 V, J, P) (some (.int (if sWw V (Lv I t) n 0 < w then 0 else if V 14 0 < w then (sFc (nI q) (sWw V (Lv I t) n) w q).2 else -2))) (SH, wB (wRw I (gS V (Lv I t)) (gT V (Lv I t)) n) 56 V, J', P) ∧ Jok J J' t := by
  refine Qj.use (x_enterq (d := d + 6) cqX10_drop [some (.ref 0), some (.int w)] rfl (by simp [lg_sl, Value.category]) ?_)
  refine r_iload_n dX10_drop_0 rfl ?_
  refine r_iconst (v := 1) dX10_drop_1 (by decide) ?_
  refine r_ic_lt 12 dX10_drop_2 (by decide) (fun c2 => ?_) (fun c2 => ?_)
  · exact absurd c2 h.1
  · refine r_iload_n dX10_drop_5 rfl ?_
    refine r_sipush (v := 9999) dX10_drop_6 (by decide) ?_
    refine r_ic_le 14 dX10_drop_9 (by decide) (fun c9 => ?_) (fun c9 => ?_)
    · refine r_aload_n dX10_drop_14 rfl ?_
      refine r_getR dX10_drop_15 flX10_65 sh_0 (by decide) rfl (pf_0_15 hP) ?_
      refine r_aload_n dX10_drop_18 rfl ?_
      refine r_getR dX10_drop_19 flX10_42 sh_0 (by decide) rfl (pf_0_7 hP) ?_
      obtain ⟨J22, hx22, hj22⟩ := k_weigh (E := E) (ex := ex) (J := J) hP hb56 ht hbt hv hL (d + 0)
      refine r_cV1v dX10_drop_22 vlX10_294 sh_98 (Nat.le_of_ble_eq_true rfl) hx22 ?_
      refine r_aload_n dX10_drop_25 rfl ?_
      refine r_getR dX10_drop_26 flX10_65 sh_0 (by decide) rfl (pf_0_15 hP) ?_
      refine r_aload_n dX10_drop_29 rfl ?_
      refine r_getR dX10_drop_30 flX10_42 sh_0 (by decide) rfl (pf_0_7 hP) ?_
      refine r_iconst (v := 0) dX10_drop_33 (by decide) ?_
      refine r_cV2i dX10_drop_34 vlX10_297 sh_98 (Nat.le_of_ble_eq_true rfl) (by have z := k_without (E := E) (ex := ex) (I := (wRw I (gS V (Lv I t)) (gT V (Lv I t)) n)) (J := J22) (P := P) hP hb56 hv 0 (d + 2); rw [show sWo V ((wRw I (gS V (Lv I t)) (gT V (Lv I t)) n) 99) ((wRw I (gS V (Lv I t)) (gT V (Lv I t)) n) 100) 0 n = sWw V (Lv I t) n 0 from congrFun (sWw_eq hv (Lv I t)) 0] at z; exact z) ?_
      refine r_iload_n dX10_drop_37 rfl ?_
      refine r_ic_ge 43 dX10_drop_38 (by decide) (fun c38 => ?_) (fun c38 => ?_)
      · refine r_aload_n dX10_drop_43 rfl ?_
        refine r_getR dX10_drop_44 flX10_42 sh_0 (by decide) rfl (pf_0_7 hP) ?_
        refine r_getIv dX10_drop_47 flX10_301 (br_s _ hb56) (by decide) rfl (wB_i _ _ _ (by decide)) ?_
        refine r_iload_n dX10_drop_50 rfl ?_
        refine r_ic_lt 59 dX10_drop_51 (by decide) (fun c51 => ?_) (fun c51 => ?_)
        · refine r_aload_n dX10_drop_59 rfl ?_
          refine r_iload_n dX10_drop_60 rfl ?_
          refine r_cV1i dX10_drop_61 vlX10_304 sh_0 (Nat.le_of_ble_eq_true rfl) (by have z := k_fewestCuts (E := E) (ex := ex) (I := (wRw I (gS V (Lv I t)) (gT V (Lv I t)) n)) (J := J22) (P := P) hP ht hx5 hbt hv hq hT w (d + 1); rw [sWw_eq hv] at z; exact z) ?_
          exact r_iretq dX10_drop_64 rfl rfl (by rw [if_neg (Int32.not_lt.mpr c38), if_pos c51]; exact Qj.mk hj22)
        · refine r_bipush (v := (-2)) dX10_drop_54 (by decide) ?_
          refine r_goto 64 dX10_drop_56 (by decide) ?_
          exact r_iretq dX10_drop_64 rfl rfl (by rw [if_neg (Int32.not_lt.mpr c38), if_neg c51]; exact Qj.mk hj22)
      · refine r_iconst (v := 0) dX10_drop_41 (by decide) ?_
        exact r_iretq dX10_drop_42 rfl rfl (by rw [if_pos (Int32.not_le.mp c38)]; exact Qj.mk hj22)
    · exact absurd h.2 c9
