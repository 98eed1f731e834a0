/-! the class: payRest -/
/-- by the class: from the set S the strand i can be paid, and the load is borne behind it -/
def cOk (N : Nat → Nat → Int32) (L : Nat → (Nat → Int64) → Int64) (n : Nat) (w : Int32) (S i : Nat) : Prop := sCan (vS N S) (nI i) ∧ ¬ sBr (vS N (S ||| 2 ^ i)) L n < w
def QP (I : Nat → Nat → Int32) (ch : Nat → Int32) (J : Nat → Nat → Int64) (P : Nat → Nat → Nat) (t : Nat) (ok : Nat → Nat → Prop) (A S c : Nat) (N : Nat → Nat → Int32) : Option Value → xS → Prop := fun r1 S1 => (r1 = some (.int 1) ∧ eE ok A S ∧ ∃ ch2 dd2 W2 J2, S1 = (SH, wB (wC I ch2 dd2) 80 W2, J2, P) ∧ Jok J J2 t ∧ ∀ q, q < c → ch2 (pcT S 12 + q) = nI (nxE ok A (ptE ok A S q))) ∨ (r1 = some (.int 0) ∧ ¬ eE ok A S ∧ ∃ dd2 J2, S1 = (SH, wB (wC I ch dd2) 80 (vS N S), J2, P) ∧ Jok J J2 t ∧ Dk ok A dd2)
set_option maxHeartbeats 8000000 in
theorem k_payRest {E : xCl} {ex : Bool} {I : Nat → Nat → Int32} {P : Nat → Nat → Nat} (hP : Pok P) {t : Nat} (ht : t ∈ TL) (hb8 : P 80 0 = t + 1) {n : Nat} {N : Nat → Nat → Int32} (hv : Vok N n) (hL : Lok I t) {A : Nat} (hA : A < 2 ^ n) {w : Int32} (hwa : I 103 2 = nI A) (hlo : I 103 3 = w) (hN : ∀ i, A.testBit i = true → N 9 i = 0) (d : Nat) : ∀ c S ch dd J, pcT S 12 + c = pcT A 12 → S < 4096 → (∀ k, S.testBit k = true → A.testBit k = true) → Dk (cOk N (Lv I t) n w) A dd → ∃ r1 S1, xEx E ex (d + c + 7) yX4_payRest [.ref 103, .ref 80, .int (nI S), .int (nI (pcT S 12))] (SH, wB (wC I ch dd) 80 (vS N S), J, P) r1 S1 ∧ (QP I ch J P t (cOk N (Lv I t) n w) A S c N) r1 S1 := by
  have hn12 := hv.1
  have hA12 : A < 4096 := Nat.lt_of_lt_of_le hA (pow12 hn12)
  intro c
  induction c with
  | zero =>
    intro S ch dd J hc hS hSA hDk
    have hSA0 : S = A := Classical.byContradiction (fun hne => by
      obtain ⟨i, hi, h1, h2⟩ := sub_ne hA12 hSA hne
      have := pcT_lt hSA h1 h2 12 hi
      omega)
    refine x_enterq (d := d + 0 + 6) cqX4_payRest [some (.ref 103), some (.ref 80), some (.int (nI S)), some (.int (nI (pcT S 12))), none, none, none] rfl (by simp [lg_sl, Value.category]) ?_
    refine r_iload_n dX4_payRest_0 rfl ?_
    refine r_aload_n dX4_payRest_1 rfl ?_
    refine r_getIv dX4_payRest_2 flX4_18 sh_103 (by decide) rfl ((wB_o _ _ _ (br_x _ hb80 103 (by decide)) _).trans ((wC_o _ _ _ (by decide) (by decide) _).trans hwa)) ?_
    refine r_ic_ne 10 dX4_payRest_5 (by decide) (fun c5 => ?_) (fun c5 => ?_)
    · exact absurd (by rw [hSA0]) c5
    · refine r_iconst (v := 1) dX4_payRest_8 (by decide) ?_
      exact r_iretq dX4_payRest_9 rfl rfl (Or.inl ⟨rfl, (eE_iff _ _ _).mpr (Or.inl hSA0), ch, dd, _, J, rfl, Jok.rf J t, fun q hq => absurd hq (by omega)⟩)
  | succ c ih =>
    intro S ch dd J hc hS hSA hDk
    have hdep : pcT S 12 < 12 := by have := pcT_le A 12; omega
    have hne : S ≠ A := fun z => by rw [z] at hc; omega
    have hvS := hv.vS S
    have LL : ∀ cc j dd J1 y5 y6, j + cc = 12 → Dk (cOk N (Lv I t) n w) A dd → (∀ i, i < j → ¬ gE (cOk N (Lv I t) n w) A S i) → Jok J J1 t → xR (xEx E ex (d + (c + 1) + 6)) ex none yX4_payRest cX4_payRest (some .boolean) 13 [some (.ref 103), some (.ref 80), some (.int (nI S)), some (.int (nI (pcT S 12))), some (.int (nI j)), y5, y6] [] (SH, wB (wC I ch dd) 80 (vS N S), J1, P) (QP I ch J P t (cOk N (Lv I t) n w) A S (c + 1) N) := by
      intro cc
      induction cc with
      | zero =>
        intro j dd J1 y5 y6 hj hDk hng hJ
        refine r_iload dX4_payRest_13 rfl ?_
        refine r_bipush (v := 12) dX4_payRest_15 (by decide) ?_
        refine r_ic_ge 144 dX4_payRest_17 (by decide) (fun c17 => ?_) (fun c17 => ?_)
        · refine r_iconst (v := 0) dX4_payRest_144 (by decide) ?_
          exact r_iretq dX4_payRest_145 rfl rfl (Or.inr ⟨rfl, fun z => by rcases (eE_iff _ _ _).mp z with z | ⟨i, hi, z⟩; exact hne z; exact hng i (by omega) z, dd, J1, rfl, hJ, hDk⟩)
        · exact absurd (by rw [show j = 12 by omega]; decide) c17
      | succ cc ih2 =>
        intro j dd J1 y5 y6 hj hDk hng hJ
        have hS2 : (S ||| 2 ^ j) < 4096 := or_lt (n := 12) hS (Nat.pow_lt_pow_right (by decide) (by omega))
        refine r_iload dX4_payRest_13 rfl ?_
        refine r_bipush (v := 12) dX4_payRest_15 (by decide) ?_
        refine r_ic_ge 144 dX4_payRest_17 (by decide) (fun c17 => ?_) (fun c17 => ?_)
        · exact absurd c17 (lt12 (by omega))
        · refine r_iload_n dX4_payRest_20 rfl ?_
          refine r_bipush (v := 12) dX4_payRest_21 (by decide) ?_
          refine r_ic_ge 144 dX4_payRest_23 (by decide) (fun c23 => ?_) (fun c23 => ?_)
          · exact absurd c23 (lt12 hdep)
          · refine r_iload_n dX4_payRest_26 rfl ?_
            refine r_iconst (v := 1) dX4_payRest_27 (by decide) ?_
            refine r_iload dX4_payRest_28 rfl ?_
            refine r_ishl dX4_payRest_30 ?_
            refine r_ior dX4_payRest_31 ?_
            rw [show nI S ||| (1 <<< (nI j &&& 31)) = nI (S ||| 2 ^ j) from by rw [bz_shl j (by omega), bz_or]]
            refine r_istore5 dX4_payRest_32 rfl ?_
            refine r_aload_n dX4_payRest_34 rfl ?_
            refine r_getIv dX4_payRest_35 flX4_18 sh_103 (by decide) rfl ((wB_o _ _ _ (br_x _ hb80 103 (by decide)) _).trans ((wC_o _ _ _ (by decide) (by decide) _).trans hwa)) ?_
            refine r_iload dX4_payRest_38 rfl ?_
            refine r_ishr dX4_payRest_40 ?_
            refine r_iconst (v := 1) dX4_payRest_41 (by decide) ?_
            refine r_iand dX4_payRest_42 ?_
            refine r_iconst (v := 1) dX4_payRest_43 (by decide) ?_
            refine r_ic_ne 75 dX4_payRest_44 (by decide) (fun c44 => ?_) (fun c44 => ?_)
            · refine r_iconst (v := 0) dX4_payRest_75 (by decide) ?_
              refine r_istore6 dX4_payRest_76 rfl ?_
              refine r_iload dX4_payRest_78 rfl ?_
              refine r_if_ne 86 dX4_payRest_80 (by decide) (fun c80 => ?_) (fun c80 => ?_)
              · exact absurd c80 (by decide)
              · refine r_goto 138 dX4_payRest_83 (by decide) ?_
                refine r_iinc4 (v := 1) dX4_payRest_138 (by decide) rfl ?_
                refine r_goto 13 dX4_payRest_141 (by decide) ?_
                rw [nI_1]; exact ih2 (j + 1) dd J1 _ _ (by omega) hDk (fun i hi => if e : i = j then (by rw [e]; exact fun z => c44 ((bz_1 (by omega) (by omega)).mpr z.1)) else hng i (by omega)) hJ
            · have bA := (bz_1 (by omega) (by omega)).mp c44
              refine r_iload dX4_payRest_47 rfl ?_
              refine r_iload_n dX4_payRest_49 rfl ?_
              refine r_ic_eq 75 dX4_payRest_50 (by decide) (fun c50 => ?_) (fun c50 => ?_)
              · refine r_iconst (v := 0) dX4_payRest_75 (by decide) ?_
                refine r_istore6 dX4_payRest_76 rfl ?_
                refine r_iload dX4_payRest_78 rfl ?_
                refine r_if_ne 86 dX4_payRest_80 (by decide) (fun c80 => ?_) (fun c80 => ?_)
                · exact absurd c80 (by decide)
                · refine r_goto 138 dX4_payRest_83 (by decide) ?_
                  refine r_iinc4 (v := 1) dX4_payRest_138 (by decide) rfl ?_
                  refine r_goto 13 dX4_payRest_141 (by decide) ?_
                  rw [nI_1]; exact ih2 (j + 1) dd J1 _ _ (by omega) hDk (fun i hi => if e : i = j then (by rw [e]; exact fun z => absurd (or2_gt z.2.1) (by rw [bz_inj (by omega) (by omega) c50]; omega)) else hng i (by omega)) hJ
              · have bS : S.testBit j = false := by cases hz : S.testBit j; rfl; exact absurd (congrArg nI (Nat.eq_of_testBit_eq (fun k => by rw [or2_bit]; by_cases e : j = k; (subst e; simp [hz]); simp [e]))) c50
                refine r_aload_n dX4_payRest_53 rfl ?_
                refine r_iload dX4_payRest_54 rfl ?_
                by_cases h56 : dB (dd ((S ||| 2 ^ j) / 32)) ((S ||| 2 ^ j) % 32)
                · refine r_cV1i dX4_payRest_56 vlX4_46 sh_103 (Nat.le_of_ble_eq_true rfl) (k_isDead_t hP hS2 h56 (d + c + 6)) ?_
                  refine r_if_ne 75 dX4_payRest_59 (by decide) (fun c59 => ?_) (fun c59 => ?_)
                  · refine r_iconst (v := 0) dX4_payRest_75 (by decide) ?_
                    refine r_istore6 dX4_payRest_76 rfl ?_
                    refine r_iload dX4_payRest_78 rfl ?_
                    refine r_if_ne 86 dX4_payRest_80 (by decide) (fun c80 => ?_) (fun c80 => ?_)
                    · exact absurd c80 (by decide)
                    · refine r_goto 138 dX4_payRest_83 (by decide) ?_
                      refine r_iinc4 (v := 1) dX4_payRest_138 (by decide) rfl ?_
                      refine r_goto 13 dX4_payRest_141 (by decide) ?_
                      rw [nI_1]; exact ih2 (j + 1) dd J1 _ _ (by omega) hDk (fun i hi => if e : i = j then (by rw [e]; exact fun z => hDk _ hS2 h56 S j z.2.1 rfl z) else hng i (by omega)) hJ
                  · exact absurd c59 (by decide)
                · refine r_cV1i dX4_payRest_56 vlX4_46 sh_103 (Nat.le_of_ble_eq_true rfl) (k_isDead_f hP hS2 h56 (d + c + 6)) ?_
                  refine r_if_ne 75 dX4_payRest_59 (by decide) (fun c59 => ?_) (fun c59 => ?_)
                  · exact absurd c59 (by decide)
                  · refine r_aload_n dX4_payRest_62 rfl ?_
                    refine r_iload dX4_payRest_63 rfl ?_
                    by_cases h65 : sCan (vS N S) (nI j)
                    · refine r_cV1i dX4_payRest_65 vlX4_50 (br_s _ hb80) (Nat.le_of_ble_eq_true rfl) (k_canPay_t hP hb80 hvS h65 (d + c + 4)) ?_
                      refine r_if_eq 75 dX4_payRest_68 (by decide) (fun c68 => ?_) (fun c68 => ?_)
                      · exact absurd c68 (by decide)
                      · refine r_iconst (v := 1) dX4_payRest_71 (by decide) ?_
                        refine r_goto 76 dX4_payRest_72 (by decide) ?_
                        refine r_istore6 dX4_payRest_76 rfl ?_
                        refine r_iload dX4_payRest_78 rfl ?_
                        refine r_if_ne 86 dX4_payRest_80 (by decide) (fun c80 => ?_) (fun c80 => ?_)
                        · refine r_aload_n dX4_payRest_86 rfl ?_
                          refine r_iload dX4_payRest_87 rfl ?_
                          refine r_cV1v dX4_payRest_89 vlX4_33 (br_s _ hb80) (Nat.le_of_ble_eq_true rfl) (by have z := k_payOut (E := E) (ex := ex) (I := wC I ch dd) (V := (vS N S)) (J := J1) hP hb80 hvS (i := nI j) (in12 (by omega)) (d + c + 6); rw [nI_clamp (n := j) (by omega), vS_pay N (by omega) bS] at z; exact z) ?_
                          refine r_aload_n dX4_payRest_92 rfl ?_
                          obtain ⟨J93, hx93, hj93⟩ := k_bridgeBears (E := E) (ex := ex) (I := wC I ch dd) (V := (vS N (S ||| 2 ^ j))) (J := J1) hP hb80 ht hb8 (hv.vS (S ||| 2 ^ j)) (Lok_of (tl_C I ch dd ht) hL) (d + c + 1)
                          rw [Lv_of (tl_C I ch dd ht)] at hx93
                          have hj93 := hJ.tr hj93
                          refine r_cV0i dX4_payRest_93 vlX4_39 (br_s _ hb80) (Nat.le_of_ble_eq_true rfl) hx93 ?_
                          refine r_aload_n dX4_payRest_96 rfl ?_
                          refine r_getIv dX4_payRest_97 flX4_22 sh_103 (by decide) rfl ((wB_o _ _ _ (br_x _ hb80 103 (by decide)) _).trans ((wC_o _ _ _ (by decide) (by decide) _).trans hlo)) ?_
                          refine r_ic_lt 126 dX4_payRest_100 (by decide) (fun c100 => ?_) (fun c100 => ?_)
                          · refine r_aload_n dX4_payRest_126 rfl ?_
                            refine r_iload dX4_payRest_127 rfl ?_
                            refine r_cV1v dX4_payRest_129 vlX4_43 (br_s _ hb80) (Nat.le_of_ble_eq_true rfl) (by have z := k_takeBack (E := E) (ex := ex) (I := wC I ch dd) (V := (vS N (S ||| 2 ^ j))) (J := J93) hP hb80 (hv.vS (S ||| 2 ^ j)) (i := nI j) (in12 (by omega)) (d + c + 6); rw [nI_clamp (n := j) (by omega), vS_back N (by omega) bS (hN j bA)] at z; exact z) ?_
                            refine r_aload_n dX4_payRest_132 rfl ?_
                            refine r_iload dX4_payRest_133 rfl ?_
                            refine r_cV1v dX4_payRest_135 vlX4_53 sh_103 (Nat.le_of_ble_eq_true rfl) (k_markDead (dd := dd) hP hS2 (d + c + 6)) ?_
                            refine r_iinc4 (v := 1) dX4_payRest_138 (by decide) rfl ?_
                            refine r_goto 13 dX4_payRest_141 (by decide) ?_
                            rw [nI_1]; exact ih2 (j + 1) _ _ _ _ (by omega) (hDk.m hS2 (fun S3 i h1 h2 z => z.2.2.1.2 (by rw [h2]; exact c100))) (fun i hi => if e : i = j then (by rw [e]; exact fun z => (show nT (cOk N (Lv I t) n w) A (S ||| 2 ^ j) from (fun S3 i h1 h2 z => z.2.2.1.2 (by rw [h2]; exact c100))) S j z.2.1 rfl z) else hng i (by omega)) hj93
                          · refine r_aload_n dX4_payRest_103 rfl ?_
                            refine r_aload_n dX4_payRest_104 rfl ?_
                            refine r_iload dX4_payRest_105 rfl ?_
                            refine r_iload_n dX4_payRest_107 rfl ?_
                            refine r_iconst (v := 1) dX4_payRest_108 (by decide) ?_
                            refine r_iadd dX4_payRest_109 ?_
                            have z110 := ih (S ||| 2 ^ j) ch dd J93 (by rw [pcT_or bS 12, if_pos (by omega)]; omega) hS2 (fun k hk => by rw [or2_bit] at hk; cases hz : S.testBit k <;> simp_all) hDk
                            obtain ⟨r1, S1, hx1, ⟨rfl, hE2, ch2, dd2, W2, J2, rfl, hj2, hpath⟩ | ⟨rfl, hnE, dd2, J2, rfl, hj2, hD2⟩⟩ := z110
                            · rw [pcT_or bS 12, if_pos (show j < 12 by omega), ← nI_1] at hx1
                              refine r_cV3i dX4_payRest_110 vlX4_29 sh_103 (Nat.le_of_ble_eq_true rfl) hx1 ?_
                              refine r_if_eq 126 dX4_payRest_113 (by decide) (fun c113 => ?_) (fun c113 => ?_)
                              · exact absurd c113 (by decide)
                              · refine r_aload_n dX4_payRest_116 rfl ?_
                                refine r_getR dX4_payRest_117 flX4_9 sh_103 (by decide) rfl (pf_103_0 hP) ?_
                                refine r_iload_n dX4_payRest_120 rfl ?_
                                refine r_iload dX4_payRest_121 rfl ?_
                                refine r_iasv dX4_payRest_123 sh_104 (vp_in_nI (by omega) (by omega)) (show _ = wB (wC I (up ch2 (pcT S 12) (nI j)) dd2) 80 W2 from (wB_xo _ _ (br_x _ hb80 104 (by decide)) _ _).trans (congrArg (fun z => wB z 80 W2) (by rw [nI_clamp (n := pcT S 12) (by omega), wC_xc _ _ _ (by omega)]))) ?_
                                refine r_iconst (v := 1) dX4_payRest_124 (by decide) ?_
                                refine r_iretq dX4_payRest_125 rfl rfl ?_
                                have hgj : gE (cOk N (Lv I t) n w) A S j := ⟨bA, bS, ⟨h65, c100⟩, hE2⟩
                                have hnx := nxE_at (by omega) hgj hng
                                refine Or.inl ⟨rfl, (eE_iff _ _ _).mpr (Or.inr ⟨j, by omega, hgj⟩), up ch2 (pcT S 12) (nI j), dd2, W2, J2, rfl, hj93.tr hj2, fun q hq => ?_⟩
                                cases q with
                                | zero => rw [Nat.add_zero, up_s, ptE, hnx]
                                | succ q =>
                                  rw [up0 _ _ _ (by omega), ptE_s, hnx]
                                  have := hpath q (by omega)
                                  rw [pcT_or bS 12, if_pos (by omega)] at this
                                  rw [show pcT S 12 + (q + 1) = pcT S 12 + 1 + q by omega]; exact this
                            · rw [pcT_or bS 12, if_pos (show j < 12 by omega), ← nI_1] at hx1
                              refine r_cV3i dX4_payRest_110 vlX4_29 sh_103 (Nat.le_of_ble_eq_true rfl) hx1 ?_
                              refine r_if_eq 126 dX4_payRest_113 (by decide) (fun c113 => ?_) (fun c113 => ?_)
                              · refine r_aload_n dX4_payRest_126 rfl ?_
                                refine r_iload dX4_payRest_127 rfl ?_
                                refine r_cV1v dX4_payRest_129 vlX4_43 (br_s _ hb80) (Nat.le_of_ble_eq_true rfl) (by have z := k_takeBack (E := E) (ex := ex) (I := wC I ch dd2) (V := (vS N (S ||| 2 ^ j))) (J := J2) hP hb80 (hv.vS (S ||| 2 ^ j)) (i := nI j) (in12 (by omega)) (d + c + 6); rw [nI_clamp (n := j) (by omega), vS_back N (by omega) bS (hN j bA)] at z; exact z) ?_
                                refine r_aload_n dX4_payRest_132 rfl ?_
                                refine r_iload dX4_payRest_133 rfl ?_
                                refine r_cV1v dX4_payRest_135 vlX4_53 sh_103 (Nat.le_of_ble_eq_true rfl) (k_markDead (dd := dd2) hP hS2 (d + c + 6)) ?_
                                refine r_iinc4 (v := 1) dX4_payRest_138 (by decide) rfl ?_
                                refine r_goto 13 dX4_payRest_141 (by decide) ?_
                                rw [nI_1]; exact ih2 (j + 1) _ _ _ _ (by omega) (hD2.m hS2 (fun S3 i h1 h2 z => hnE (by rw [← h2]; exact z.2.2.2))) (fun i hi => if e : i = j then (by rw [e]; exact fun z => (show nT (cOk N (Lv I t) n w) A (S ||| 2 ^ j) from (fun S3 i h1 h2 z => hnE (by rw [← h2]; exact z.2.2.2))) S j z.2.1 rfl z) else hng i (by omega)) (hj93.tr hj2)
                              · exact absurd c113 (by decide)
                        · exact absurd c80 (by decide)
                    · refine r_cV1i dX4_payRest_65 vlX4_50 (br_s _ hb80) (Nat.le_of_ble_eq_true rfl) (k_canPay_f hP hb80 hvS h65 (d + c + 4)) ?_
                      refine r_if_eq 75 dX4_payRest_68 (by decide) (fun c68 => ?_) (fun c68 => ?_)
                      · refine r_iconst (v := 0) dX4_payRest_75 (by decide) ?_
                        refine r_istore6 dX4_payRest_76 rfl ?_
                        refine r_iload dX4_payRest_78 rfl ?_
                        refine r_if_ne 86 dX4_payRest_80 (by decide) (fun c80 => ?_) (fun c80 => ?_)
                        · exact absurd c80 (by decide)
                        · refine r_goto 138 dX4_payRest_83 (by decide) ?_
                          refine r_iinc4 (v := 1) dX4_payRest_138 (by decide) rfl ?_
                          refine r_goto 13 dX4_payRest_141 (by decide) ?_
                          rw [nI_1]; exact ih2 (j + 1) dd J1 _ _ (by omega) hDk (fun i hi => if e : i = j then (by rw [e]; exact fun z => h65 z.2.2.1.1) else hng i (by omega)) hJ
                      · exact absurd c68 (by decide)
    refine x_enterq (d := d + (c + 1) + 6) cqX4_payRest [some (.ref 103), some (.ref 80), some (.int (nI S)), some (.int (nI (pcT S 12))), none, none, none] rfl (by simp [lg_sl, Value.category]) ?_
    refine r_iload_n dX4_payRest_0 rfl ?_
    refine r_aload_n dX4_payRest_1 rfl ?_
    refine r_getIv dX4_payRest_2 flX4_18 sh_103 (by decide) rfl ((wB_o _ _ _ (br_x _ hb80 103 (by decide)) _).trans ((wC_o _ _ _ (by decide) (by decide) _).trans hwa)) ?_
    refine r_ic_ne 10 dX4_payRest_5 (by decide) (fun c5 => ?_) (fun c5 => ?_)
    · refine r_iconst (v := 0) dX4_payRest_10 (by decide) ?_
      refine r_istore4 dX4_payRest_11 rfl ?_
      exact LL 12 0 dd J _ _ (by omega) hDk (fun i hi => absurd hi (by omega)) (Jok.rf J t)
    · exact absurd (bz_inj (by omega) (by omega) c5) hne
