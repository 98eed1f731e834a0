/-! the law's loop (by program, wip/gen2/loop991.py) -/
section LL
variable {p : Program} {l : Launch} {e : Env} {s : State} {m : MethodId} {below : List Frame} {meth : Method} {c : Code} {D : va_G} {t : Nat → ClassId} {b L : Nat} {xs : Nat → Int32}
set_option maxHeartbeats 4000000 in
theorem law_loop (hcat : vxC) (hst : l.stackTraces = false) (C : xC s #[Value.ref b] D t) (M : xMx p s m meth c s yL_law cL_law 7 ret) (hX : va_X b L xs s s.heap) (hbl : b < s.heap.size) {sa1 sa2 : Nat} {tx1 tx2 : String} (pw : pW s sa1 sa2 tx1 tx2) (hc5 : ∀ y vs S r S', xEx EWd false 5 y vs S r S' → xM l s D t b false 15 y vs S r S') (hc30 : ∀ y vs S r S', xEx EWd false 30 y vs S r S' → xM l s D t b false 40 y vs S r S') (hL : L ≤ 3072) : ∀ (n i cells slots : Nat) (a5 a6 : Option Value) (I : Nat → Nat → Int32) (J : Nat → Nat → Int64) (P : Nat → Nat → Nat), L < i + 6 * n + 6 → i ≤ 3072 → cells + n ≤ 601024 → slots + 6 * n ≤ 7293034 → RX I P → lG p l e s m below meth c D t b cells slots 23 (lwl i a5 a6) [] (SH, I, J, P) := by
  intro n
  induction n with
  | zero =>
    intro i cells slots a5 a6 I J P hn hi hc hs hRX
    have hK := law_W (e := e) (below := below) (L := L) (xs := xs) C M hX hbl hc30 (cells := cells) (slots := slots) (by omega) (by omega)
    refine g_iload hK dL_law_23 rfl ?_
    refine g_aloadX_n hK dL_law_25 rfl ?_
    refine g_alenX hK dL_law_26 rfl ?_
    refine g_bipush hK (v := nI 6) dL_law_27 (by decide) ?_
    refine g_isub hK dL_law_29 ?_
    refine g_ic_gt hK 1423 dL_law_30 (by decide) (fun _ => law_end M (by omega) (by omega)) (fun h => ?_)
    exfalso
    apply h
    have e1 := pk_sub_toInt (a := L) (b := 6) (by omega) (by omega)
    have e2 := nI_toInt (n := i) (by omega)
    exact Int32.lt_iff_toInt_lt.mpr (by rw [e2]; show (nI L - nI 6).toInt < _; rw [e1]; omega)
  | succ n ih =>
    intro i cells slots a5 a6 I J P hn hi hc hs hRX
    have hK := law_W (e := e) (below := below) (L := L) (xs := xs) C M hX hbl hc30 (cells := cells) (slots := slots) (by omega) (by omega)
    refine g_iload hK dL_law_23 rfl ?_
    refine g_aloadX_n hK dL_law_25 rfl ?_
    refine g_alenX hK dL_law_26 rfl ?_
    refine g_bipush hK (v := nI 6) dL_law_27 (by decide) ?_
    refine g_isub hK dL_law_29 ?_
    refine g_ic_gt hK 1423 dL_law_30 (by decide) (fun _ => law_end M (by omega) (by omega)) (fun h => ?_)
    have hi6 : i + 6 ≤ L := by
      have e1 := pk_sub_toInt (a := L) (b := 6) (by omega) (by omega)
      have e2 := nI_toInt (n := i) (by omega)
      have h' : ¬ (nI L - nI 6).toInt < (nI i).toInt := fun z => h (Int32.lt_iff_toInt_lt.mpr z)
      rw [e1, e2] at h'
      omega
    have next : ∀ (cells slots : Nat), cells + n ≤ 601024 → slots + 6 * n ≤ 7293034 → ∀ (a5 a6 : Option Value) (I2 : Nat → Nat → Int32) (J2 : Nat → Nat → Int64) (P2 : Nat → Nat → Nat), RX I2 P2 → lG p l e s m below meth c D t b cells slots 1417 (lwl i a5 a6) [] (SH, I2, J2, P2) := by
      intro cells slots hc hs a5 a6 I2 J2 P2 hX2
      have hK2 := law_W (e := e) (below := below) (L := L) (xs := xs) C M hX hbl hc30 (cells := cells) (slots := slots) (by omega) (by omega)
      refine g_iinc4 hK2 (v := nI 6) dL_law_1417 (by decide) rfl ?_
      refine g_goto hK2 23 dL_law_1420 (by decide) ?_
      rw [nI_add]
      exact ih (i + 6) cells slots a5 a6 I2 J2 P2 (by omega) (by omega) hc hs hX2
    have kk := next cells slots (by omega) (by omega) a5 a6
    refine g_aloadX_n hK dL_law_33 rfl ?_
    refine g_iload hK dL_law_34 rfl ?_
    refine g_ialX hK dL_law_36 rfl (vp_in_nI (by omega) (by omega)) ?_
    refine g_bipush hK (v := 63) dL_law_37 (by decide) ?_
    refine g_iand hK dL_law_39 ?_
    obtain ⟨j, hj, ej⟩ := pk_andE (xs (nI i).toNatClampNeg) (m := 63) 6 (by decide)
    rw [ej]
    by_cases h36 : 36 < j
    · refine g_tsO hK 1417 dL_law_40 (Or.inr ?_) (by decide) (kk _ _ _ hRX)
      rw [nI_toInt (by omega)]
      omega
    · rcases (show j = 0 ∨ j = 1 ∨ j = 2 ∨ j = 3 ∨ j = 4 ∨ j = 5 ∨ j = 6 ∨ j = 7 ∨ j = 8 ∨ j = 9 ∨ j = 10 ∨ j = 11 ∨ j = 12 ∨ j = 13 ∨ j = 14 ∨ j = 15 ∨ j = 16 ∨ j = 17 ∨ j = 18 ∨ j = 19 ∨ j = 20 ∨ j = 21 ∨ j = 22 ∨ j = 23 ∨ j = 24 ∨ j = 25 ∨ j = 26 ∨ j = 27 ∨ j = 28 ∨ j = 29 ∨ j = 30 ∨ j = 31 ∨ j = 32 ∨ j = 33 ∨ j = 34 ∨ j = 35 ∨ j = 36 by omega) with rfl | rfl | rfl | rfl | rfl | rfl | rfl | rfl | rfl | rfl | rfl | rfl | rfl | rfl | rfl | rfl | rfl | rfl | rfl | rfl | rfl | rfl | rfl | rfl | rfl | rfl | rfl | rfl | rfl | rfl | rfl | rfl | rfl | rfl | rfl | rfl | rfl
      · exact g_tsI hK 204 (off := 164) dL_law_40 (by decide) (by decide) (by decide) (by decide) (lc_0 C hK hi6 hL hRX kk)
      · exact g_tsI hK 277 (off := 237) dL_law_40 (by decide) (by decide) (by decide) (by decide) (lc_1 C hK hi6 hL hRX kk)
      · exact g_tsI hK 302 (off := 262) dL_law_40 (by decide) (by decide) (by decide) (by decide) (lc_2 C hK hi6 hL hRX kk)
      · exact g_tsI hK 327 (off := 287) dL_law_40 (by decide) (by decide) (by decide) (by decide) (lc_3 C hK hi6 hL hRX kk)
      · exact g_tsI hK 352 (off := 312) dL_law_40 (by decide) (by decide) (by decide) (by decide) (lc_4 hcat hst C M hX hbl pw hc5 hc30 (by omega) (by omega) hi6 hL hRX (next (cells + 1) (slots + 6) (by omega) (by omega)))
      · exact g_tsI hK 420 (off := 380) dL_law_40 (by decide) (by decide) (by decide) (by decide) (lc_5 C hK hi6 hL hRX kk)
      · exact g_tsI hK 457 (off := 417) dL_law_40 (by decide) (by decide) (by decide) (by decide) (lc_6 C hK hi6 hL hRX kk)
      · exact g_tsI hK 494 (off := 454) dL_law_40 (by decide) (by decide) (by decide) (by decide) (lc_7 C hK hi6 hL hRX kk)
      · exact g_tsI hK 532 (off := 492) dL_law_40 (by decide) (by decide) (by decide) (by decide) (lc_8 C hK hi6 hL hRX kk)
      · exact g_tsI hK 545 (off := 505) dL_law_40 (by decide) (by decide) (by decide) (by decide) (lc_9 C hK hi6 hL hRX kk)
      · exact g_tsI hK 570 (off := 530) dL_law_40 (by decide) (by decide) (by decide) (by decide) (lc_10 C hK hi6 hL hRX kk)
      · exact g_tsI hK 631 (off := 591) dL_law_40 (by decide) (by decide) (by decide) (by decide) (lc_11 C hK hi6 hL hRX kk)
      · exact g_tsI hK 656 (off := 616) dL_law_40 (by decide) (by decide) (by decide) (by decide) (lc_12 C hK hi6 hL hRX kk)
      · exact g_tsI hK 681 (off := 641) dL_law_40 (by decide) (by decide) (by decide) (by decide) (lc_13 C hK hi6 hL hRX kk)
      · exact g_tsI hK 718 (off := 678) dL_law_40 (by decide) (by decide) (by decide) (by decide) (lc_14 C hK hi6 hL hRX kk)
      · exact g_tsI hK 755 (off := 715) dL_law_40 (by decide) (by decide) (by decide) (by decide) (lc_15 C hK hi6 hL hRX kk)
      · exact g_tsI hK 780 (off := 740) dL_law_40 (by decide) (by decide) (by decide) (by decide) (lc_16 C hK hi6 hL hRX kk)
      · exact g_tsI hK 829 (off := 789) dL_law_40 (by decide) (by decide) (by decide) (by decide) (lc_17 C hK hi6 hL hRX kk)
      · exact g_tsI hK 854 (off := 814) dL_law_40 (by decide) (by decide) (by decide) (by decide) (lc_18 C hK hi6 hL hRX kk)
      · exact g_tsI hK 879 (off := 839) dL_law_40 (by decide) (by decide) (by decide) (by decide) (lc_19 C hK hi6 hL hRX kk)
      · exact g_tsI hK 916 (off := 876) dL_law_40 (by decide) (by decide) (by decide) (by decide) (lc_20 C hK hi6 hL hRX kk)
      · exact g_tsI hK 941 (off := 901) dL_law_40 (by decide) (by decide) (by decide) (by decide) (lc_21 C hK hi6 hL hRX kk)
      · exact g_tsI hK 978 (off := 938) dL_law_40 (by decide) (by decide) (by decide) (by decide) (lc_22 C hK hi6 hL hRX kk)
      · exact g_tsI hK 1003 (off := 963) dL_law_40 (by decide) (by decide) (by decide) (by decide) (lc_23 C hK hi6 hL hRX kk)
      · exact g_tsI hK 1028 (off := 988) dL_law_40 (by decide) (by decide) (by decide) (by decide) (lc_24 C hK hi6 hL hRX kk)
      · exact g_tsI hK 1105 (off := 1065) dL_law_40 (by decide) (by decide) (by decide) (by decide) (lc_25 C hK hi6 hL hRX kk)
      · exact g_tsI hK 1130 (off := 1090) dL_law_40 (by decide) (by decide) (by decide) (by decide) (lc_26 C hK hi6 hL hRX kk)
      · exact g_tsI hK 1155 (off := 1115) dL_law_40 (by decide) (by decide) (by decide) (by decide) (lc_27 C hK hi6 hL hRX kk)
      · exact g_tsI hK 1168 (off := 1128) dL_law_40 (by decide) (by decide) (by decide) (by decide) (lc_28 C hK hi6 hL hRX kk)
      · exact g_tsI hK 1193 (off := 1153) dL_law_40 (by decide) (by decide) (by decide) (by decide) (lc_29 C hK hi6 hL hRX kk)
      · exact g_tsI hK 1218 (off := 1178) dL_law_40 (by decide) (by decide) (by decide) (by decide) (lc_30 C hK hi6 hL hRX kk)
      · exact g_tsI hK 1255 (off := 1215) dL_law_40 (by decide) (by decide) (by decide) (by decide) (lc_31 C hK hi6 hL hRX kk)
      · exact g_tsI hK 1304 (off := 1264) dL_law_40 (by decide) (by decide) (by decide) (by decide) (lc_32 C hK hi6 hL hRX kk)
      · exact g_tsI hK 1353 (off := 1313) dL_law_40 (by decide) (by decide) (by decide) (by decide) (lc_33 C hK hi6 hL hRX kk)
      · exact g_tsI hK 1366 (off := 1326) dL_law_40 (by decide) (by decide) (by decide) (by decide) (lc_34 C hK hi6 hL hRX kk)
      · exact g_tsI hK 1379 (off := 1339) dL_law_40 (by decide) (by decide) (by decide) (by decide) (lc_35 C hK hi6 hL hRX kk)
      · exact g_tsI hK 1392 (off := 1352) dL_law_40 (by decide) (by decide) (by decide) (by decide) (lc_36 C hK hi6 hL hRX kk)
end LL
