/-! the reference: whose debt is painted -/
def cT1 (I : Nat → Nat → Int32) : Nat → Nat → Nat → Int32
  | 0 => I
  | j + 1 => xu (cT1 I j) 396 j 1
def cSt (I : Nat → Nat → Int32) (q : Nat) : Nat → Nat → Int32 := if ¬ I 396 q = 0 ∧ I 395 (4 * q) < 0 then xu I 396 (I 395 (4 * q + 1)).toNatClampNeg 0 else I
def cD : Nat → (Nat → Nat → Int32) → Nat → Nat → Int32
  | 0, I => I
  | q + 1, I => cD q (cSt I q)
def cLs (I : Nat → Nat → Int32) : Nat → Int32
  | 0 => 0
  | j + 1 => if ¬ I 396 j = 0 ∧ ¬ I 395 (4 * j) ≤ cLs I j then I 395 (4 * j) else cLs I j
theorem cT1_o (I : Nat → Nat → Int32) {a : Nat} (h : a ≠ 396) (k : Nat) : ∀ j, cT1 I j a k = I a k
  | 0 => rfl
  | j + 1 => by rw [cT1, xu_f _ _ h, cT1_o I h k j]
theorem cSt_o (I : Nat → Nat → Int32) (q : Nat) {a : Nat} (h : a ≠ 396) (k : Nat) : cSt I q a k = I a k := by
  unfold cSt; split
  · exact xu_f _ _ h
  · rfl
theorem cD_o {a : Nat} (h : a ≠ 396) (k : Nat) : ∀ q (I : Nat → Nat → Int32), cD q I a k = I a k
  | 0, _ => rfl
  | q + 1, I => by rw [cD, cD_o h k q, cSt_o I q h]
theorem rKb_eq {I I' : Nat → Nat → Int32} (h : ∀ k, I' 347 k = I 347 k) : rKb I' = rKb I := by unfold rKb; rw [h 77, h 76]
/-- the counts of the known sags -/
def cC (I : Nat → Nat → Int32) (kb : Nat) : Nat → Nat → Int32 := cD kb (cT1 I kb)
theorem cC_o (I : Nat → Nat → Int32) (kb : Nat) {a : Nat} (h : a ≠ 396) (k : Nat) : cC I kb a k = I a k := by rw [cC, cD_o h, cT1_o I h]
set_option maxHeartbeats 1000000 in
theorem l_pb1 {E : xCl} {ex : Bool} {I : Nat → Nat → Int32} {J : Nat → Nat → Int64} {P : Nat → Nat → Nat} (hP : Pok P) {kb : Nat} (hkb24 : kb ≤ 24) (hkb : rKb I = nI kb) (d : Nat) {Q : Option Value → xS → Prop} (K : xR (xEx E ex (d + 11)) ex none yX11_paintedBits cX11_paintedBits (some .int) 25 [some (.ref 347), some (.int 0), some (.int (nI kb)), none, none, none] [] (SH, cT1 I kb, J, P) Q) : ∀ j, j ≤ kb → xR (xEx E ex (d + 11)) ex none yX11_paintedBits cX11_paintedBits (some .int) 4 [some (.ref 347), some (.int 0), some (.int (nI j)), none, none, none] [] (SH, cT1 I j, J, P) Q := by
  refine r_for (fun j => xR (xEx E ex (d + 11)) ex none yX11_paintedBits cX11_paintedBits (some .int) 4 [some (.ref 347), some (.int 0), some (.int (nI j)), none, none, none] [] (SH, cT1 I j, J, P) Q) _ ?_ ?_
  · intro j hj ih
    refine r_iload_n dX11_paintedBits_4 rfl ?_
    refine r_aload_n dX11_paintedBits_5 rfl ?_
    refine r_cV0i dX11_paintedBits_6 vlX11_519 sh_347 (Nat.le_of_ble_eq_true rfl) (by have z := k_knownByI (E := E) (ex := ex) (I := cT1 I j) (J := J) (P := P) (d + 10); rw [rKb_eq (fun k => cT1_o I (by decide) k j), hkb] at z; exact z) ?_
    refine r_ic_ge 25 dX11_paintedBits_9 (by decide) (fun c9 => ?_) (fun c9 => ?_)
    · exact absurd c9 (nI_ge hj (by omega))
    · refine r_aload_n dX11_paintedBits_12 rfl ?_
      refine r_getR dX11_paintedBits_13 flX11_163 sh_347 (by decide) rfl (pf_347_79 hP) ?_
      refine r_iload_n dX11_paintedBits_16 rfl ?_
      refine r_iconst (v := 1) dX11_paintedBits_17 (by decide) ?_
      refine r_zasv dX11_paintedBits_18 sh_396 (vp_in_nI (by omega) (by omega)) (show _ = cT1 I (j + 1) from by rw [nI_clamp (n := j) (by omega)]; rfl) ?_
      refine r_iinc2 (v := 1) dX11_paintedBits_19 (by decide) rfl ?_
      refine r_goto 4 dX11_paintedBits_22 (by decide) ?_
      rw [nI_1]; exact ih
  · refine r_iload_n dX11_paintedBits_4 rfl ?_
    refine r_aload_n dX11_paintedBits_5 rfl ?_
    refine r_cV0i dX11_paintedBits_6 vlX11_519 sh_347 (Nat.le_of_ble_eq_true rfl) (by have z := k_knownByI (E := E) (ex := ex) (I := cT1 I kb) (J := J) (P := P) (d + 10); rw [rKb_eq (fun k => cT1_o I (by decide) k kb), hkb] at z; exact z) ?_
    refine r_ic_ge 25 dX11_paintedBits_9 (by decide) (fun c9 => ?_) (fun c9 => ?_)
    · exact K
    · exact absurd (nI_le (Nat.le_refl _) (by omega)) c9
theorem nI_dn {q : Nat} : nI (q + 1) - 1 + (-1) = nI q - 1 := by rw [nI_m1, pm1]
set_option maxHeartbeats 1000000 in
theorem l_pb2 {E : xCl} {ex : Bool} {J : Nat → Nat → Int64} {P : Nat → Nat → Nat} (hP : Pok P) (d : Nat) {Q : Option Value → xS → Prop} : ∀ q (I : Nat → Nat → Int32), q ≤ 24 → (∀ k, k < q → I 395 (4 * k) < 0 → vp_in (I 395 (4 * k + 1)) 24) → (K : ∀ x2, xR (xEx E ex (d + 11)) ex none yX11_paintedBits cX11_paintedBits (some .int) 78 [some (.ref 347), some (.int 0), some (.int x2), none, none, none] [] (SH, cD q I, J, P) Q) → xR (xEx E ex (d + 11)) ex none yX11_paintedBits cX11_paintedBits (some .int) 32 [some (.ref 347), some (.int 0), some (.int (nI q - 1)), none, none, none] [] (SH, I, J, P) Q := by
  intro q
  induction q with
  | zero =>
    intro I hq hst K
    rw [show nI 0 - 1 = -1 from by decide]
    refine r_iload_n dX11_paintedBits_32 rfl ?_
    refine r_if_lt 78 dX11_paintedBits_33 (by decide) (fun c33 => ?_) (fun c33 => ?_)
    · exact K _
    · exact absurd (by decide) c33
  | succ q ih =>
    intro I hq hst K
    rw [nI_m1]
    refine r_iload_n dX11_paintedBits_32 rfl ?_
    refine r_if_lt 78 dX11_paintedBits_33 (by decide) (fun c33 => ?_) (fun c33 => ?_)
    · exact absurd c33 (nI_pos (by omega))
    · refine r_aload_n dX11_paintedBits_36 rfl ?_
      refine r_getR dX11_paintedBits_37 flX11_163 sh_347 (by decide) rfl (pf_347_79 hP) ?_
      refine r_iload_n dX11_paintedBits_40 rfl ?_
      refine r_zalv dX11_paintedBits_41 sh_396 (vp_in_nI (by omega) (by omega)) (congrArg (I 396) (nI_clamp (n := q) (by omega))) ?_
      refine r_if_eq 72 dX11_paintedBits_42 (by decide) (fun c42 => ?_) (fun c42 => ?_)
      · refine r_iinc2 (v := (-1)) dX11_paintedBits_72 (by decide) rfl ?_
        refine r_goto 32 dX11_paintedBits_75 (by decide) ?_
        rw [pm1]; have e : cSt I q = _ := if_neg (fun z => z.1 c42)
        rw [cD, e] at K; exact ih _ (by omega) (fun k hk hz => hst k (by omega) hz) K
      · refine r_aload_n dX11_paintedBits_45 rfl ?_
        refine r_getR dX11_paintedBits_46 flX11_160 sh_347 (by decide) rfl (pf_347_78 hP) ?_
        refine r_iconst (v := 4) dX11_paintedBits_49 (by decide) ?_
        refine r_iload_n dX11_paintedBits_50 rfl ?_
        refine r_imul dX11_paintedBits_51 ?_
        refine r_ialv dX11_paintedBits_52 sh_395 (i4 (by omega)) (congrArg (I 395) (c4 (by omega))) ?_
        refine r_if_ge 72 dX11_paintedBits_53 (by decide) (fun c53 => ?_) (fun c53 => ?_)
        · refine r_iinc2 (v := (-1)) dX11_paintedBits_72 (by decide) rfl ?_
          refine r_goto 32 dX11_paintedBits_75 (by decide) ?_
          rw [pm1]; have e : cSt I q = _ := if_neg (fun z => Int32.not_lt.mpr c53 z.2)
          rw [cD, e] at K; exact ih _ (by omega) (fun k hk hz => hst k (by omega) hz) K
        · refine r_aload_n dX11_paintedBits_56 rfl ?_
          refine r_getR dX11_paintedBits_57 flX11_163 sh_347 (by decide) rfl (pf_347_79 hP) ?_
          refine r_aload_n dX11_paintedBits_60 rfl ?_
          refine r_getR dX11_paintedBits_61 flX11_160 sh_347 (by decide) rfl (pf_347_78 hP) ?_
          refine r_iconst (v := 4) dX11_paintedBits_64 (by decide) ?_
          refine r_iload_n dX11_paintedBits_65 rfl ?_
          refine r_imul dX11_paintedBits_66 ?_
          refine r_iconst (v := 1) dX11_paintedBits_67 (by decide) ?_
          refine r_iadd dX11_paintedBits_68 ?_
          refine r_ialv dX11_paintedBits_69 sh_395 (i41 (by omega)) (congrArg (I 395) (c41 (by omega))) ?_
          refine r_iconst (v := 0) dX11_paintedBits_70 (by decide) ?_
          refine r_zasv dX11_paintedBits_71 sh_396 (hst q (by omega) (Int32.not_le.mp c53)) rfl ?_
          refine r_iinc2 (v := (-1)) dX11_paintedBits_72 (by decide) rfl ?_
          refine r_goto 32 dX11_paintedBits_75 (by decide) ?_
          rw [pm1]; have e : cSt I q = _ := if_pos ⟨c42, Int32.not_le.mp c53⟩
          rw [cD, e] at K; exact ih _ (by omega) (fun k hk hz => by rw [xu_f _ _ (by decide)] at hz ⊢; exact hst k (by omega) hz) K
set_option maxHeartbeats 1000000 in
theorem l_pb3 {E : xCl} {ex : Bool} {I : Nat → Nat → Int32} {J : Nat → Nat → Int64} {P : Nat → Nat → Nat} (hP : Pok P) {kb : Nat} (hkb24 : kb ≤ 24) (hkb : rKb I = nI kb) (d : Nat) {Q : Option Value → xS → Prop} (K : xR (xEx E ex (d + 11)) ex none yX11_paintedBits cX11_paintedBits (some .int) 128 [some (.ref 347), some (.int (cLs I kb)), some (.int (nI kb)), none, none, none] [] (SH, I, J, P) Q) : ∀ j, j ≤ kb → xR (xEx E ex (d + 11)) ex none yX11_paintedBits cX11_paintedBits (some .int) 80 [some (.ref 347), some (.int (cLs I j)), some (.int (nI j)), none, none, none] [] (SH, I, J, P) Q := by
  refine r_for (fun j => xR (xEx E ex (d + 11)) ex none yX11_paintedBits cX11_paintedBits (some .int) 80 [some (.ref 347), some (.int (cLs I j)), some (.int (nI j)), none, none, none] [] (SH, I, J, P) Q) _ ?_ ?_
  · intro j hj ih
    refine r_iload_n dX11_paintedBits_80 rfl ?_
    refine r_aload_n dX11_paintedBits_81 rfl ?_
    refine r_cV0i dX11_paintedBits_82 vlX11_519 sh_347 (Nat.le_of_ble_eq_true rfl) (by have z := k_knownByI (E := E) (ex := ex) (I := I) (J := J) (P := P) (d + 10); rw [hkb] at z; exact z) ?_
    refine r_ic_ge 128 dX11_paintedBits_85 (by decide) (fun c85 => ?_) (fun c85 => ?_)
    · exact absurd c85 (nI_ge hj (by omega))
    · refine r_aload_n dX11_paintedBits_88 rfl ?_
      refine r_getR dX11_paintedBits_89 flX11_163 sh_347 (by decide) rfl (pf_347_79 hP) ?_
      refine r_iload_n dX11_paintedBits_92 rfl ?_
      refine r_zalv dX11_paintedBits_93 sh_396 (vp_in_nI (by omega) (by omega)) (congrArg (I 396) (nI_clamp (n := j) (by omega))) ?_
      refine r_if_eq 120 dX11_paintedBits_94 (by decide) (fun c94 => ?_) (fun c94 => ?_)
      · refine r_iload_n dX11_paintedBits_120 rfl ?_
        refine r_istore_n1 dX11_paintedBits_121 rfl ?_
        refine r_iinc2 (v := 1) dX11_paintedBits_122 (by decide) rfl ?_
        refine r_goto 80 dX11_paintedBits_125 (by decide) ?_
        rw [nI_1]; rw [cLs, if_neg (fun z => z.1 c94)] at ih; exact ih
      · refine r_aload_n dX11_paintedBits_97 rfl ?_
        refine r_getR dX11_paintedBits_98 flX11_160 sh_347 (by decide) rfl (pf_347_78 hP) ?_
        refine r_iconst (v := 4) dX11_paintedBits_101 (by decide) ?_
        refine r_iload_n dX11_paintedBits_102 rfl ?_
        refine r_imul dX11_paintedBits_103 ?_
        refine r_ialv dX11_paintedBits_104 sh_395 (i4 (by omega)) (congrArg (I 395) (c4 (by omega))) ?_
        refine r_iload_n dX11_paintedBits_105 rfl ?_
        refine r_ic_le 120 dX11_paintedBits_106 (by decide) (fun c106 => ?_) (fun c106 => ?_)
        · refine r_iload_n dX11_paintedBits_120 rfl ?_
          refine r_istore_n1 dX11_paintedBits_121 rfl ?_
          refine r_iinc2 (v := 1) dX11_paintedBits_122 (by decide) rfl ?_
          refine r_goto 80 dX11_paintedBits_125 (by decide) ?_
          rw [nI_1]; rw [cLs, if_neg (fun z => z.2 c106)] at ih; exact ih
        · refine r_aload_n dX11_paintedBits_109 rfl ?_
          refine r_getR dX11_paintedBits_110 flX11_160 sh_347 (by decide) rfl (pf_347_78 hP) ?_
          refine r_iconst (v := 4) dX11_paintedBits_113 (by decide) ?_
          refine r_iload_n dX11_paintedBits_114 rfl ?_
          refine r_imul dX11_paintedBits_115 ?_
          refine r_ialv dX11_paintedBits_116 sh_395 (i4 (by omega)) (congrArg (I 395) (c4 (by omega))) ?_
          refine r_goto 121 dX11_paintedBits_117 (by decide) ?_
          refine r_istore_n1 dX11_paintedBits_121 rfl ?_
          refine r_iinc2 (v := 1) dX11_paintedBits_122 (by decide) rfl ?_
          refine r_goto 80 dX11_paintedBits_125 (by decide) ?_
          rw [nI_1]; rw [cLs, if_pos ⟨c94, c106⟩] at ih; exact ih
  · refine r_iload_n dX11_paintedBits_80 rfl ?_
    refine r_aload_n dX11_paintedBits_81 rfl ?_
    refine r_cV0i dX11_paintedBits_82 vlX11_519 sh_347 (Nat.le_of_ble_eq_true rfl) (by have z := k_knownByI (E := E) (ex := ex) (I := I) (J := J) (P := P) (d + 10); rw [hkb] at z; exact z) ?_
    refine r_ic_ge 128 dX11_paintedBits_85 (by decide) (fun c85 => ?_) (fun c85 => ?_)
    · exact K
    · exact absurd (nI_le (Nat.le_refl _) (by omega)) c85
theorem okB_eq {I I' : Nat → Nat → Int32} (h5 : ∀ k, I' 395 k = I 395 k) (h6 : ∀ k, I' 396 k = I 396 k) (B y : Int32) (k : Nat) : okB I' B y k ↔ okB I B y k := by
  unfold okB; rw [h5, h5, h5, h5, h6]
/-- all the counted sags come from what is borne, B y behind y years -/
def sMr (I : Nat → Nat → Int32) (B : Nat → Int32) (kb : Nat) (last : Int32) : Prop := ∀ y : Nat, y ≤ 50 → nI y ≤ last → ∀ k, k < kb → okB I (B y) (nI y) k
theorem k_iso_t {E : xCl} {ex : Bool} {I V : Nat → Nat → Int32} {e : Int32} {J : Nat → Nat → Int64} {P : Nat → Nat → Nat} (hP : Pok P) {kb : Nat} (hkb24 : kb ≤ 24) (hkb : rKb I = nI kb) {B y : Int32} (h : ∀ k, k < kb → okB I B y k) (d : Nat) : xEx E ex (d + 2) yX11_isSo [.ref 347, .int y, .int B] (SH, wR (wE (rPl I) e) 1 V, J, P) (some (.int 1)) (SH, wR (wE (rPl I) e) 1 V, J, P) := by
  refine k_isSo_t hP hkb24 ?_ (fun k hk => (okB_eq (fun q => ((wR_o _ _ _ (by decide) q).trans (wE_o _ _ (by decide) q)).trans (rPl_o (by decide) q)) (fun q => ((wR_o _ _ _ (by decide) q).trans (wE_o _ _ (by decide) q)).trans (rPl_o (by decide) q)) B y k).mpr (h k hk)) d
  unfold rKb at hkb ⊢
  rw [wR_o _ _ _ (by decide), wR_o _ _ _ (by decide), wE_f _ _ (by decide), wE_f _ _ (by decide), rPl_k (by decide) (by decide) (by decide), rPl_k (by decide) (by decide) (by decide)]
  exact hkb
theorem k_iso_f {E : xCl} {ex : Bool} {I V : Nat → Nat → Int32} {e : Int32} {J : Nat → Nat → Int64} {P : Nat → Nat → Nat} (hP : Pok P) {kb : Nat} (hkb24 : kb ≤ 24) (hkb : rKb I = nI kb) {B y : Int32} (h : ¬ ∀ k, k < kb → okB I B y k) (d : Nat) : xEx E ex (d + 2) yX11_isSo [.ref 347, .int y, .int B] (SH, wR (wE (rPl I) e) 1 V, J, P) (some (.int 0)) (SH, wR (wE (rPl I) e) 1 V, J, P) := by
  refine k_isSo_f hP hkb24 ?_ (fun z => h (fun k hk => (okB_eq (fun q => ((wR_o _ _ _ (by decide) q).trans (wE_o _ _ (by decide) q)).trans (rPl_o (by decide) q)) (fun q => ((wR_o _ _ _ (by decide) q).trans (wE_o _ _ (by decide) q)).trans (rPl_o (by decide) q)) B y k).mp (z k hk))) d
  unfold rKb at hkb ⊢
  rw [wR_o _ _ _ (by decide), wR_o _ _ _ (by decide), wE_f _ _ (by decide), wE_f _ _ (by decide), rPl_k (by decide) (by decide) (by decide), rPl_k (by decide) (by decide) (by decide)]
  exact hkb
set_option maxHeartbeats 1000000 in
theorem z_pb {E : xCl} {ex : Bool} {I : Nat → Nat → Int32} {J : Nat → Nat → Int64} {P : Nat → Nat → Nat} (hP : Pok P) {n : Nat} {V : Nat → Nat → Int32} (hv : Vok V n) (hk : Tok V n) {L : Nat → (Nat → Int64) → Int64} (hL : LwR I L) (h7 : L7 L) {m : Nat} (hm : m ≤ 8) (hc : I 347 14 = nI m) (hg : ∀ k, vp_in (I 363 k) 6) {kb : Nat} (hkb24 : kb ≤ 24) (hkb : rKb I = nI kb) {l1 bb ss : Int32} (d : Nat) {Q : Option Value → xS → Prop} (K : ∀ r e2 J2 y5 t2, JokR J J2 → ((r = 1 ∧ sMr I (fun y => (sBr (sYr V L n (rT I) m y) L n)) kb l1) ∨ (r = 0 ∧ ¬ sMr I (fun y => (sBr (sYr V L n (rT I) m y) L n)) kb l1)) → xR (xEx E ex (d + 11)) ex none yX11_paintedBits cX11_paintedBits (some .int) 216 [some (.ref 347), some (.int l1), some (.int bb), some (.int ss), some (.int r), y5] [] (SH, wR (wE (rPl I) e2) 1 (sYr V L n (rT I) m t2), J2, P) Q) {t t2 : Nat} {e1 : Int32} {J1 : Nat → Nat → Int64} (hJ : JokR J J1) (hno : ¬ sMr I (fun y => (sBr (sYr V L n (rT I) m y) L n)) kb l1) : xR (xEx E ex (d + 11)) ex none yX11_paintedBits cX11_paintedBits (some .int) 181 [some (.ref 347), some (.int l1), some (.int bb), some (.int ss), some (.int 0), some (.int (nI t))] [] (SH, wR (wE (rPl I) e1) 1 (sYr V L n (rT I) m t2), J1, P) Q := by
  refine r_iload dX11_paintedBits_181 rfl ?_
  refine r_iload_n dX11_paintedBits_183 rfl ?_
  refine r_ic_gt 216 dX11_paintedBits_184 (by decide) (fun c184 => ?_) (fun c184 => ?_)
  · exact K 0 _ _ _ _ hJ (Or.inr ⟨rfl, hno⟩)
  · refine r_iload dX11_paintedBits_187 rfl ?_
    refine r_if_eq 216 dX11_paintedBits_189 (by decide) (fun c189 => ?_) (fun c189 => ?_)
    · exact K 0 _ _ _ _ hJ (Or.inr ⟨rfl, hno⟩)
    · exact absurd c189 (by decide)
set_option maxHeartbeats 2000000 in
theorem l_pby {E : xCl} {ex : Bool} {I : Nat → Nat → Int32} {J : Nat → Nat → Int64} {P : Nat → Nat → Nat} (hP : Pok P) {n : Nat} {V : Nat → Nat → Int32} (hv : Vok V n) (hk : Tok V n) {L : Nat → (Nat → Int64) → Int64} (hL : LwR I L) (h7 : L7 L) {m : Nat} (hm : m ≤ 8) (hc : I 347 14 = nI m) (hg : ∀ k, vp_in (I 363 k) 6) {kb : Nat} (hkb24 : kb ≤ 24) (hkb : rKb I = nI kb) {l1 bb ss : Int32} (h51 : ¬ nI 51 ≤ l1) (d : Nat) {Q : Option Value → xS → Prop} (K : ∀ r e2 J2 y5 t2, JokR J J2 → ((r = 1 ∧ sMr I (fun y => (sBr (sYr V L n (rT I) m y) L n)) kb l1) ∨ (r = 0 ∧ ¬ sMr I (fun y => (sBr (sYr V L n (rT I) m y) L n)) kb l1)) → xR (xEx E ex (d + 11)) ex none yX11_paintedBits cX11_paintedBits (some .int) 216 [some (.ref 347), some (.int l1), some (.int bb), some (.int ss), some (.int r), y5] [] (SH, wR (wE (rPl I) e2) 1 (sYr V L n (rT I) m t2), J2, P) Q) : ∀ c t e1 J1, t + c = 50 → JokR J J1 → (∀ y, y ≤ t → nI y ≤ l1 → ∀ k, k < kb → okB I (sBr (sYr V L n (rT I) m y) L n) (nI y) k) → xR (xEx E ex (d + 11)) ex none yX11_paintedBits cX11_paintedBits (some .int) 181 [some (.ref 347), some (.int l1), some (.int bb), some (.int ss), some (.int 1), some (.int (nI (t + 1)))] [] (SH, wR (wE (rPl I) e1) 1 (sYr V L n (rT I) m t), J1, P) Q := by
  intro c
  induction c with
  | zero =>
    intro t e1 J1 ht hJ hdone
    refine r_iload dX11_paintedBits_181 rfl ?_
    refine r_iload_n dX11_paintedBits_183 rfl ?_
    refine r_ic_gt 216 dX11_paintedBits_184 (by decide) (fun c184 => ?_) (fun c184 => ?_)
    · exact K 1 _ _ _ _ hJ (Or.inl ⟨rfl, fun y hy hl k hk => hdone y (by omega) hl k hk⟩)
    · exact absurd (Int32.not_le.mp h51) (fun z => c184 (by rw [show t = 50 by omega]; exact z))
  | succ c ih =>
    intro t e1 J1 ht hJ hdone
    refine r_iload dX11_paintedBits_181 rfl ?_
    refine r_iload_n dX11_paintedBits_183 rfl ?_
    refine r_ic_gt 216 dX11_paintedBits_184 (by decide) (fun c184 => ?_) (fun c184 => ?_)
    · exact K 1 _ _ _ _ hJ (Or.inl ⟨rfl, fun y hy hl k hk => hdone y (by have z := Int32.lt_of_le_of_lt hl c184; exact Nat.le_of_lt_succ ((nI_ltI (a := y) (b := t + 1) (by omega) (by omega)).mp z)) hl k hk⟩)
    · refine r_iload dX11_paintedBits_187 rfl ?_
      refine r_if_eq 216 dX11_paintedBits_189 (by decide) (fun c189 => ?_) (fun c189 => ?_)
      · exact absurd c189 (by decide)
      · refine r_aload_n dX11_paintedBits_192 rfl ?_
        refine r_iconst (v := 1) dX11_paintedBits_193 (by decide) ?_
        obtain ⟨e194, J194, hx194, hj194⟩ := k_goOn (E := E) (ex := ex) (I := rPl I) (V := (sYr V L n (rT I) m t)) (e := e1) (J := J1) hP (b := 1) (by decide) (hv.yr L (rT I) m t) (hk.yr L (rT I) m t) hL.pl h7 hm ((rPl_k (by decide) (by decide) (by decide)).trans hc) (fun k => by rw [rPl_o (by decide)]; exact hg k) (lo := -1) ⟨fun _ => by decide, fun _ => rPl_69 I⟩ ⟨fun _ => by decide, fun _ => rPl_71 I⟩ ⟨fun _ => by decide, fun _ => rPl_70 I⟩ (d + 3)
        rw [rPl_T] at hx194
        have hj194 := hJ.tr hj194
        refine r_cV1v dX11_paintedBits_194 vlX11_479 sh_347 (Nat.le_of_ble_eq_true rfl) hx194 ?_
        refine r_aload_n dX11_paintedBits_197 rfl ?_
        refine r_iload dX11_paintedBits_198 rfl ?_
        refine r_aload_n dX11_paintedBits_200 rfl ?_
        refine r_iconst (v := 1) dX11_paintedBits_201 (by decide) ?_
        obtain ⟨e202, J202, hx202, hj202⟩ := k_rbridge (E := E) (ex := ex) (I := rPl I) (V := (sYr V L n (rT I) m (t + 1))) (e := e194) (J := J194) hP (b := 1) (by decide) (hv.yr L (rT I) m (t + 1)) (hk.yr L (rT I) m (t + 1)) hL.pl h7 (d + 5)
        have hj202 := hj194.tr hj202
        refine r_cV1i dX11_paintedBits_202 vlX11_443 sh_347 (Nat.le_of_ble_eq_true rfl) hx202 ?_
        by_cases h205 : ∀ k, k < kb → okB I (sBr (sYr V L n (rT I) m (t + 1)) L n) (nI (t + 1)) k
        · refine r_cV2i dX11_paintedBits_205 vlX11_525 sh_347 (Nat.le_of_ble_eq_true rfl) (k_iso_t hP hkb24 hkb h205 (d + 9)) ?_
          refine r_istore4 dX11_paintedBits_208 rfl ?_
          refine r_iinc5 (v := 1) dX11_paintedBits_210 (by decide) rfl ?_
          refine r_goto 181 dX11_paintedBits_213 (by decide) ?_
          rw [nI_1]; exact ih (t + 1) _ _ (by omega) hj202 (fun y ey hl k hk => if e9 : y ≤ t then hdone y e9 hl k hk else by rw [show y = t + 1 by omega]; exact h205 k hk)
        · refine r_cV2i dX11_paintedBits_205 vlX11_525 sh_347 (Nat.le_of_ble_eq_true rfl) (k_iso_f hP hkb24 hkb h205 (d + 9)) ?_
          refine r_istore4 dX11_paintedBits_208 rfl ?_
          refine r_iinc5 (v := 1) dX11_paintedBits_210 (by decide) rfl ?_
          refine r_goto 181 dX11_paintedBits_213 (by decide) ?_
          rw [nI_1]; exact z_pb hP hv hk hL h7 hm hc hg hkb24 hkb d K hj202 (fun z => h205 (fun k hk => z (t + 1) (by omega) (Int32.not_lt.mp c184) k hk))
