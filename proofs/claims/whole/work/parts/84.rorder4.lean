/-! the reference: order -/
noncomputable def rOw (ok : Nat → Nat → Prop) (A : Nat) (k : Int32) : Nat → Nat → Nat → Int32
  | 0, _, _ => -2
  | c + 1, S, i => if S = A then -2 else if nI i = k then nI (nxE ok A S) else rOw ok A k c (S ||| 2 ^ nxE ok A S) (i + 1)
noncomputable def rOr (ok : Nat → Nat → Prop) (A : Nat) (k : Int32) : Int32 := @ite _ (eE ok A 0) (Classical.propDecidable _) (rOw ok A k 13 0 0) (-2)
theorem rOr_t {ok : Nat → Nat → Prop} {A : Nat} {k : Int32} (h : eE ok A 0) : rOr ok A k = rOw ok A k 13 0 0 := if_pos h
theorem rOr_f {ok : Nat → Nat → Prop} {A : Nat} {k : Int32} (h : ¬ eE ok A 0) : rOr ok A k = -2 := if_neg h
set_option maxHeartbeats 4000000 in
theorem l_wh {E : xCl} {ex : Bool} {I : Nat → Nat → Int32} {J : Nat → Nat → Int64} {P : Nat → Nat → Nat} (hP : Pok P) {n : Nat} (hv : Vok (vR I 0) n) (hk : Tok (vR I 0) n) (hp : Pt I) {L : Nat → (Nat → Int64) → Int64} (hL : LwR I L) (h7 : L7 L) {A : Nat} (hA : A < 2 ^ n) {w : Int32} {c : Nat → Int32} (hInv : oV (rCP (vR I 0) L n w) A 0 c) {k : Int32} {S : Nat} (hS : S < 4096) (hSA : ∀ q, S.testBit q = true → A.testBit q = true) (hne : S ≠ A) (hE : eE (rCP (vR I 0) L n w) A S) {x5 : Int32} (d : Nat) {Q : Option Value → xS → Prop} (K : ∀ j, j < 12 → gE (rCP (vR I 0) L n w) A S j → nxE (rCP (vR I 0) L n w) A S = j → ∀ I2 e2 J2 W2, oI I c I2 → FX (vR I 0) W2 → JokR J J2 → xR (xEx E ex (d + 8)) ex none yX11_order cX11_order (some .int) 124 [some (.ref 347), some (.int (nI A)), some (.int w), some (.int k), some (.int (nI S)), some (.int x5), some (.int (nI j))] [] (SH, wR (wE I2 e2) 1 W2, J2, P) Q) : ∀ cc j I1 e1 J1 W, j + cc = 12 → oI I c I1 → FX (vR I 0) W → JokR J J1 → (∀ i, i < j → ¬ gE (rCP (vR I 0) L n w) A S i) → xR (xEx E ex (d + 8)) ex none yX11_order cX11_order (some .int) 72 [some (.ref 347), some (.int (nI A)), some (.int w), some (.int k), some (.int (nI S)), some (.int x5), some (.int (nI j))] [] (SH, wR (wE I1 e1) 1 W, J1, P) Q := by
  have hn12 := hv.1
  have hA12 : A < 4096 := Nat.lt_of_lt_of_le hA (pow12 hn12)
  intro cc
  induction cc with
  | zero =>
    intro j I1 e1 J1 W hj hI1 hfx hJ hng
    rcases (eE_iff _ _ _).mp hE with z | ⟨i, hi, z⟩
    · exact absurd z hne
    · exact absurd z (hng i (by omega))
  | succ cc ih =>
    intro j I1 e1 J1 W hj hI1 hfx hJ hng
    have hSj : S ||| 2 ^ j < 4096 := or_lt (n := 12) hS (Nat.pow_lt_pow_right (by decide) (by omega))
    refine r_iload_n dX11_order_72 rfl ?_
    refine r_iload dX11_order_73 rfl ?_
    by_cases h75 : (nI A >>> (nI j &&& 31)) &&& 1 = 1
    · refine r_cS2i dX11_order_75 slX11_485 (Nat.le_of_ble_eq_true rfl) (k_isOf_t h75 (d + 7)) ?_
      have b75 := (bz_1 (by omega) (by omega)).mp h75
      refine r_if_eq 118 dX11_order_78 (by decide) (fun c78 => ?_) (fun c78 => ?_)
      · exact absurd c78 (by decide)
      · refine r_iload dX11_order_81 rfl ?_
        refine r_iload dX11_order_83 rfl ?_
        by_cases h85 : (nI S >>> (nI j &&& 31)) &&& 1 = 1
        · refine r_cS2i dX11_order_85 slX11_485 (Nat.le_of_ble_eq_true rfl) (k_isOf_t h85 (d + 7)) ?_
          have b85 := (bz_1 (by omega) (by omega)).mp h85
          refine r_if_ne 118 dX11_order_88 (by decide) (fun c88 => ?_) (fun c88 => ?_)
          · refine r_iinc6 (v := 1) dX11_order_118 (by decide) rfl ?_
            refine r_goto 72 dX11_order_121 (by decide) ?_
            rw [nI_1]; exact ih (j + 1) I1 e1 J1 W (by omega) hI1 hfx hJ (fun i hi => if e : i = j then (by subst e; exact fun z => absurd b85 (by rw [z.2.1]; decide)) else hng i (by omega))
          · exact absurd c88 (by decide)
        · refine r_cS2i dX11_order_85 slX11_485 (Nat.le_of_ble_eq_true rfl) (k_isOf_f h85 (d + 7)) ?_
          have b85 : ¬ S.testBit j = true := fun z => h85 ((bz_1 (by omega) (by omega)).mpr z)
          refine r_if_ne 118 dX11_order_88 (by decide) (fun c88 => ?_) (fun c88 => ?_)
          · exact absurd c88 (by decide)
          · refine r_aload_n dX11_order_91 rfl ?_
            refine r_getR dX11_order_92 flX11_145 sh_347 (by decide) rfl (pf_347_72 hP) ?_
            refine r_iload dX11_order_95 rfl ?_
            refine r_iconst (v := 1) dX11_order_97 (by decide) ?_
            refine r_iload dX11_order_98 rfl ?_
            refine r_ishl dX11_order_100 ?_
            refine r_ior dX11_order_101 ?_
            refine r_zalv dX11_order_102 sh_391 (show vp_in (nI S ||| (1 <<< (nI j &&& 31))) 4096 from by rw [bz_shl j (by omega), bz_or]; exact vp_in_nI hSj (by decide)) ((congrArg (wR (wE I1 e1) 1 W 391) (show (nI S ||| (1 <<< (nI j &&& 31))).toNatClampNeg = S ||| 2 ^ j from by rw [bz_shl j (by omega), bz_or]; exact nI_clamp (by omega))).trans (hI1.rd hSj e1 W)) ?_
            refine r_if_eq 118 dX11_order_103 (by decide) (fun c103 => ?_) (fun c103 => ?_)
            · refine r_iinc6 (v := 1) dX11_order_118 (by decide) rfl ?_
              refine r_goto 72 dX11_order_121 (by decide) ?_
              rw [nI_1]; exact ih (j + 1) I1 e1 J1 W (by omega) hI1 hfx hJ (fun i hi => if e : i = j then (by subst e; exact fun z => absurd c103 (by rw [((hInv.g (Nat.zero_le _) hS (by omega) hSA).mpr z).2.2.1]; decide)) else hng i (by omega))
            · refine r_aload_n dX11_order_106 rfl ?_
              refine r_iload dX11_order_107 rfl ?_
              refine r_iload dX11_order_109 rfl ?_
              refine r_iload_n dX11_order_111 rfl ?_
              have hcj : c (S ||| 2 ^ j) = 1 := by
                rcases hInv (S ||| 2 ^ j) (Nat.zero_le _) hSj (fun q hq => by rw [or2_bit] at hq; cases hz : S.testBit q <;> simp_all) with z | z
                · exact z.1
                · exact absurd z.1 c103
              by_cases hc : (rCP (vR I 0) L n w) S j
              · have hgj : gE (rCP (vR I 0) L n w) A S j := (hInv.g (Nat.zero_le _) hS (by omega) hSA).mp ⟨b75, by cases hz : S.testBit j <;> simp_all, hcj, hc⟩
                obtain ⟨I9, e9, J9, W9, h9, hx9, hj9, hf9⟩ := k_cpO (E := E) (ex := ex) (e := e1) (J := J1) hP hv hk (S := S) (by omega) hp hI1 hfx hL h7 (i := j) (bit_lt hA b75) w 1 (fun _ => rfl) (fun z => absurd hc z) (d + 1)
                refine r_cV3i dX11_order_112 vlX11_491 sh_347 (Nat.le_of_ble_eq_true rfl) hx9 ?_
                refine r_if_ne 124 dX11_order_115 (by decide) (fun c115 => ?_) (fun c115 => ?_)
                · exact K j (by omega) hgj (nxE_at (by omega) hgj hng) I9 e9 J9 W9 h9 hf9 (hJ.tr hj9)
                · exact absurd c115 (by decide)
              · obtain ⟨I9, e9, J9, W9, h9, hx9, hj9, hf9⟩ := k_cpO (E := E) (ex := ex) (e := e1) (J := J1) hP hv hk (S := S) (by omega) hp hI1 hfx hL h7 (i := j) (bit_lt hA b75) w 0 (fun z => absurd z hc) (fun _ => rfl) (d + 1)
                refine r_cV3i dX11_order_112 vlX11_491 sh_347 (Nat.le_of_ble_eq_true rfl) hx9 ?_
                refine r_if_ne 124 dX11_order_115 (by decide) (fun c115 => ?_) (fun c115 => ?_)
                · exact absurd c115 (by decide)
                · refine r_iinc6 (v := 1) dX11_order_118 (by decide) rfl ?_
                  refine r_goto 72 dX11_order_121 (by decide) ?_
                  rw [nI_1]; exact ih (j + 1) I9 e9 J9 W9 (by omega) h9 hf9 (hJ.tr hj9) (fun i hi => if e : i = j then (by subst e; exact fun z => hc z.2.2.1) else hng i (by omega))
    · refine r_cS2i dX11_order_75 slX11_485 (Nat.le_of_ble_eq_true rfl) (k_isOf_f h75 (d + 7)) ?_
      have b75 : ¬ A.testBit j = true := fun z => h75 ((bz_1 (by omega) (by omega)).mpr z)
      refine r_if_eq 118 dX11_order_78 (by decide) (fun c78 => ?_) (fun c78 => ?_)
      · refine r_iinc6 (v := 1) dX11_order_118 (by decide) rfl ?_
        refine r_goto 72 dX11_order_121 (by decide) ?_
        rw [nI_1]; exact ih (j + 1) I1 e1 J1 W (by omega) hI1 hfx hJ (fun i hi => if e : i = j then (by subst e; exact fun z => b75 z.1) else hng i (by omega))
      · exact absurd c78 (by decide)
/-- the end of order: the row of ends, too -/
def QD2 (I : Nat → Nat → Int32) (J : Nat → Nat → Int64) (P : Nat → Nat → Nat) (r : Option Value) : Option Value → xS → Prop := fun r1 S1 => r1 = r ∧ ∃ c2 I2 e2 J2 W2, oI I c2 I2 ∧ S1 = (SH, wR (wE I2 e2) 1 W2, J2, P) ∧ JokR J J2 ∧ FX (vR I 0) W2
theorem QD2.mk {I I2 W2 : Nat → Nat → Int32} {c2 : Nat → Int32} {e2 : Int32} {J J2 : Nat → Nat → Int64} {P : Nat → Nat → Nat} {r : Option Value} (h1 : oI I c2 I2) (h2 : JokR J J2) (h3 : FX (vR I 0) W2) : QD2 I J P r r (SH, wR (wE I2 e2) 1 W2, J2, P) := ⟨rfl, c2, I2, e2, J2, W2, h1, rfl, h2, h3⟩
theorem ik1 {i : Nat} {k : Int32} (z : k < nI i + 1) (h : ¬ nI i = k) (hi : i < 100 := by omega) : k < nI i := by
  rw [nI_1, Int32.lt_iff_toInt_lt, nI_toInt (by omega)] at z
  rw [Int32.lt_iff_toInt_lt, nI_toInt (by omega)]
  have : k.toInt ≠ i := fun e => h (bz_toInt (by omega) e).symm
  omega
set_option maxHeartbeats 4000000 in
theorem l_rorder {E : xCl} {ex : Bool} {I : Nat → Nat → Int32} {J : Nat → Nat → Int64} {P : Nat → Nat → Nat} (hP : Pok P) {n : Nat} (hv : Vok (vR I 0) n) (hk : Tok (vR I 0) n) (hp : Pt I) {L : Nat → (Nat → Int64) → Int64} (hL : LwR I L) (h7 : L7 L) {A : Nat} (hA : A < 2 ^ n) {w : Int32} {c : Nat → Int32} (hInv : oV (rCP (vR I 0) L n w) A 0 c) {k : Int32} (d : Nat) : ∀ cc S i I1 e1 J1 W y6, pcT S 12 + cc = 13 → i < 50 - cc → S < 4096 → (∀ q, S.testBit q = true → A.testBit q = true) → eE (rCP (vR I 0) L n w) A S → ¬ k < nI i → oI I c I1 → FX (vR I 0) W → JokR J J1 → xR (xEx E ex (d + 8)) ex none yX11_order cX11_order (some .int) 54 [some (.ref 347), some (.int (nI A)), some (.int w), some (.int k), some (.int (nI S)), some (.int (nI i)), y6] [] (SH, wR (wE I1 e1) 1 W, J1, P) (QD2 I J P (some (.int (rOw (rCP (vR I 0) L n w) A k cc S i)))) := by
  have hn12 := hv.1
  have hA12 : A < 4096 := Nat.lt_of_lt_of_le hA (pow12 hn12)
  intro cc
  induction cc with
  | zero =>
    intro S i I1 e1 J1 W y6 hc hi
    have := pcT_le S 12
    omega
  | succ cc ih =>
    intro S i I1 e1 J1 W y6 hc hi hS hSA hE hik hI1 hfx hJ
    refine r_iload dX11_order_54 rfl ?_
    refine r_iload_n dX11_order_56 rfl ?_
    refine r_ic_gt 148 dX11_order_57 (by decide) (fun c57 => ?_) (fun c57 => ?_)
    · exact absurd c57 hik
    · refine r_iload dX11_order_60 rfl ?_
      refine r_iload_n dX11_order_62 rfl ?_
      refine r_ic_ne 69 dX11_order_63 (by decide) (fun c63 => ?_) (fun c63 => ?_)
      · have hne : S ≠ A := fun z => c63 (by rw [z])
        refine r_iconst (v := 0) dX11_order_69 (by decide) ?_
        refine r_istore6 dX11_order_70 rfl ?_
        refine l_wh hP hv hk hp hL h7 hA hInv hS hSA hne hE d (fun j hj12 hgj hnx I2 e2 J2 W2 h2 hf2 hj2 => ?_) 12 0 I1 e1 J1 W (by omega) hI1 hfx hJ (fun i hi => absurd hi (by omega))
        refine r_iload dX11_order_124 rfl ?_
        refine r_iconst (v := 1) dX11_order_126 (by decide) ?_
        refine r_iload dX11_order_127 rfl ?_
        refine r_ishl dX11_order_129 ?_
        refine r_ior dX11_order_130 ?_
        refine r_istore4 dX11_order_131 rfl ?_
        refine r_iload dX11_order_133 rfl ?_
        refine r_iload_n dX11_order_135 rfl ?_
        refine r_ic_ne 142 dX11_order_136 (by decide) (fun c136 => ?_) (fun c136 => ?_)
        · refine r_iinc5 (v := 1) dX11_order_142 (by decide) rfl ?_
          refine r_goto 54 dX11_order_145 (by decide) ?_
          rw [nI_1, show nI S ||| (1 <<< (nI j &&& 31)) = nI (S ||| 2 ^ j) from by rw [bz_shl j (by omega), bz_or]]; rw [rOw, if_neg hne, if_neg c136, hnx]; exact ih (S ||| 2 ^ j) (i + 1) I2 e2 J2 W2 _ (by rw [pcT_or (by exact hgj.2.1) 12, if_pos hj12]; omega) (by have := pcT_le (S ||| 2 ^ j) 12; rw [pcT_or (by exact hgj.2.1) 12, if_pos hj12] at this; omega) (or_lt (n := 12) hS (Nat.pow_lt_pow_right (by decide) hj12)) (fun q hq => by have ha := hgj.1; rw [or2_bit] at hq; cases hz : S.testBit q <;> simp_all) hgj.2.2.2 (fun z => hik (by rw [← nI_1] at z; exact ik1 z c136)) h2 hf2 hj2
        · refine r_iload dX11_order_139 rfl ?_
          exact r_iretq dX11_order_141 rfl rfl (by rw [rOw, if_neg hne, if_pos c136, hnx]; exact QD2.mk h2 hj2 hf2)
      · refine r_bipush (v := (-2)) dX11_order_66 (by decide) ?_
        exact r_iretq dX11_order_68 rfl rfl (by rw [rOw, if_pos ((nI_eq (a := S) (b := A) (by omega) (by omega)).mp c63)]; exact QD2.mk hI1 hJ hfx)
set_option maxHeartbeats 4000000 in
theorem k_rorder {E : xCl} {ex : Bool} {I I0 : Nat → Nat → Int32} {e : Int32} {J : Nat → Nat → Int64} {P : Nat → Nat → Nat} (hP : Pok P) (hI : xu I 347 2 0 = I0) {n : Nat} (hv : Vok (vR I0 0) n) (hk : Tok (vR I0 0) n) (hp : Pt I0) {L : Nat → (Nat → Int64) → Int64} (hL : LwR I0 L) (h7 : L7 L) {A : Nat} (hA : A < 2 ^ n) {w : Int32} (hAT : rAT (I0 385) n A) (hw : ¬ w < 0 ∧ ¬ 9999 < w) {k : Int32} (hk0 : ¬ k < 0) (d : Nat) : ∃ c2 I2 e' J' W', oI I0 c2 I2 ∧ xEx E ex (d + 9) yX11_order [.ref 347, .int (nI A), .int w, .int k] (SH, wE I e, J, P) (some (.int (rOr (rCP (vR I0 0) L n w) A k))) (SH, wR (wE I2 e') 1 W', J', P) ∧ JokR J J' ∧ FX (vR I0 0) W' := by
  have key : ∃ r1 S1, xEx E ex (d + 8 + 1) yX11_order [.ref 347, .int (nI A), .int w, .int k] (SH, wE I e, J, P) r1 S1 ∧ QD2 I0 J P (some (.int (rOr (rCP (vR I0 0) L n w) A k))) r1 S1 := by
    refine x_enterq (d := d + 8) cqX11_order [some (.ref 347), some (.int (nI A)), some (.int w), some (.int k), none, none, none] rfl (by simp [lg_sl, Value.category]) ?_
    refine r_aload_n dX11_order_0 rfl ?_
    refine r_iconst (v := 0) dX11_order_1 (by decide) ?_
    refine r_putIv dX11_order_2 flX11_193 ⟨_, _, _, rfl, Or.inl rfl⟩ sh_347 (by decide) rfl rfl rfl ((wE_c _ _ _ (by decide)).trans (congrArg (fun z => wE z _) hI)) ?_
    refine r_aload_n dX11_order_5 rfl ?_
    refine r_iload_n dX11_order_6 rfl ?_
    refine r_cV1i dX11_order_7 vlX11_494 sh_347 (Nat.le_of_ble_eq_true rfl) (k_arTh_t hP hv.1 ((wE_o _ _ (by decide) _).trans hv.2.1) (S := A) (by have := pow12 hv.1; omega) hA ((rAT_eq (fun q _ => wE_o I0 e (by decide) q) n A hv.1).mpr hAT) (d + 6)) ?_
    refine r_if_eq 28 dX11_order_10 (by decide) (fun c10 => ?_) (fun c10 => ?_)
    · exact absurd c10 (by decide)
    · refine r_iload_n dX11_order_13 rfl ?_
      refine r_iconst (v := 0) dX11_order_14 (by decide) ?_
      refine r_sipush (v := 9999) dX11_order_15 (by decide) ?_
      refine r_cS3i dX11_order_18 slX11_238 (Nat.le_of_ble_eq_true rfl) (k_isIn_t hw (d + 7)) ?_
      refine r_if_eq 28 dX11_order_21 (by decide) (fun c21 => ?_) (fun c21 => ?_)
      · exact absurd c21 (by decide)
      · refine r_iload_n dX11_order_24 rfl ?_
        refine r_if_ge 30 dX11_order_25 (by decide) (fun c25 => ?_) (fun c25 => ?_)
        · refine r_aload_n dX11_order_30 rfl ?_
          refine r_iload_n dX11_order_31 rfl ?_
          refine r_iload_n dX11_order_32 rfl ?_
          obtain ⟨c2, I2, e2, J2, W2, h2, hInv, hx2, hj2, hf2⟩ := k_layOrder (E := E) (ex := ex) (I := I0) (e := e) (J := J) hP hv hk hp hL h7 hA (w := w) (Or.inl rfl) (FX.v1 I0) d
          rw [raw1 hp] at hx2
          refine r_cV2v dX11_order_33 vlX11_497 sh_347 (Nat.le_of_ble_eq_true rfl) hx2 ?_
          refine r_aload_n dX11_order_36 rfl ?_
          refine r_getR dX11_order_37 flX11_145 sh_347 (by decide) rfl (pf_347_72 hP) ?_
          refine r_iconst (v := 0) dX11_order_40 (by decide) ?_
          refine r_zalv dX11_order_41 sh_391 (vp_in_iff.mpr (by decide)) ((congrArg (wR (wE I2 e2) 1 W2 391) (show (0 : Int32).toNatClampNeg = 0 from rfl)).trans (h2.rd (by decide) e2 W2)) ?_
          refine r_if_ne 48 dX11_order_42 (by decide) (fun c42 => ?_) (fun c42 => ?_)
          · refine r_iconst (v := 0) dX11_order_48 (by decide) ?_
            refine r_istore4 dX11_order_49 rfl ?_
            refine r_iconst (v := 0) dX11_order_51 (by decide) ?_
            refine r_istore5 dX11_order_52 rfl ?_
            have hE : eE (rCP (vR I0 0) L n w) A 0 := by
              rcases hInv 0 (Nat.zero_le _) (by decide) (fun q hq => by rw [Nat.zero_testBit] at hq; cases hq) with z | z
              · exact z.2
              · exact absurd z.1 c42
            rw [rOr_t hE]
            exact l_rorder hP hv hk hp hL h7 hA hInv d 13 0 0 I2 e2 J2 W2 none (by rw [show pcT 0 12 = 0 from by decide]) (by omega) (by decide) (fun q hq => by rw [Nat.zero_testBit] at hq; cases hq) hE hk0 h2 hf2 hj2
          · refine r_bipush (v := (-2)) dX11_order_45 (by decide) ?_
            exact r_iretq dX11_order_47 rfl rfl (by rw [rOr_f (fun z => by rcases hInv 0 (Nat.zero_le _) (by decide) (fun q hq => by rw [Nat.zero_testBit] at hq; cases hq) with y | y; exact absurd (y.1.symm.trans c42) (by decide); exact y.2 z)]; exact QD2.mk h2 hj2 hf2)
        · exact absurd (Int32.not_lt.mp hk0) c25
  obtain ⟨r1, S1, h1, h2, c2, I2, e9, J9, W9, hI1, h9, h10, h11⟩ := key
  subst h2; subst h9
  exact ⟨c2, I2, e9, J9, W9, hI1, h1, h10, h11⟩
set_option maxHeartbeats 1000000 in
theorem k_rorder_n {E : xCl} {ex : Bool} {I I0 : Nat → Nat → Int32} {e : Int32} {J : Nat → Nat → Int64} {P : Nat → Nat → Nat} (hP : Pok P) (hI : xu I 347 2 0 = I0) {n : Nat} (hv : Vok (vR I0 0) n) {x : Int32} (hx : x < 0 ∨ ¬ x >>> (nI n &&& 31) = 0) (w k : Int32) (d : Nat) : xEx E ex (d + 3) yX11_order [.ref 347, .int x, .int w, .int k] (SH, wE I e, J, P) (some (.int (-1))) (SH, wE I0 e, J, P) := by
  refine x_enter cqX11_order [some (.ref 347), some (.int x), some (.int w), some (.int k), none, none, none] rfl (by simp [lg_sl, Value.category]) ?_
  refine r_aload_n dX11_order_0 rfl ?_
  refine r_iconst (v := 0) dX11_order_1 (by decide) ?_
  refine r_putIv dX11_order_2 flX11_193 ⟨_, _, _, rfl, Or.inl rfl⟩ sh_347 (by decide) rfl rfl rfl ((wE_c _ _ _ (by decide)).trans (congrArg (fun z => wE z _) hI)) ?_
  refine r_aload_n dX11_order_5 rfl ?_
  refine r_iload_n dX11_order_6 rfl ?_
  refine r_cV1i dX11_order_7 vlX11_494 sh_347 (Nat.le_of_ble_eq_true rfl) ((k_arTh_n hP hv.1 ((wE_o _ _ (by decide) _).trans hv.2.1) hx (d + 1))) ?_
  refine r_if_eq 28 dX11_order_10 (by decide) (fun c10 => ?_) (fun c10 => ?_)
  · refine r_iconst (v := (-1)) dX11_order_28 (by decide) ?_
    exact r_iret dX11_order_29 rfl rfl rfl rfl
  · exact absurd c10 (by decide)
set_option maxHeartbeats 1000000 in
theorem k_rorder_f {E : xCl} {ex : Bool} {I I0 : Nat → Nat → Int32} {e : Int32} {J : Nat → Nat → Int64} {P : Nat → Nat → Nat} (hP : Pok P) (hI : xu I 347 2 0 = I0) {n : Nat} (hv : Vok (vR I0 0) n) {A : Nat} (hA : A < 2 ^ n) (hAT : ¬ rAT (I0 385) n A) (w k : Int32) (d : Nat) : xEx E ex (d + 3) yX11_order [.ref 347, .int (nI A), .int w, .int k] (SH, wE I e, J, P) (some (.int (-1))) (SH, wE I0 e, J, P) := by
  refine x_enter cqX11_order [some (.ref 347), some (.int (nI A)), some (.int w), some (.int k), none, none, none] rfl (by simp [lg_sl, Value.category]) ?_
  refine r_aload_n dX11_order_0 rfl ?_
  refine r_iconst (v := 0) dX11_order_1 (by decide) ?_
  refine r_putIv dX11_order_2 flX11_193 ⟨_, _, _, rfl, Or.inl rfl⟩ sh_347 (by decide) rfl rfl rfl ((wE_c _ _ _ (by decide)).trans (congrArg (fun z => wE z _) hI)) ?_
  refine r_aload_n dX11_order_5 rfl ?_
  refine r_iload_n dX11_order_6 rfl ?_
  refine r_cV1i dX11_order_7 vlX11_494 sh_347 (Nat.le_of_ble_eq_true rfl) ((k_arTh_f hP hv.1 ((wE_o _ _ (by decide) _).trans hv.2.1) (S := A) (by have := pow12 hv.1; omega) hA (fun z => hAT ((rAT_eq (fun q _ => wE_o I0 e (by decide) q) n A hv.1).mp z)) d)) ?_
  refine r_if_eq 28 dX11_order_10 (by decide) (fun c10 => ?_) (fun c10 => ?_)
  · refine r_iconst (v := (-1)) dX11_order_28 (by decide) ?_
    exact r_iret dX11_order_29 rfl rfl rfl rfl
  · exact absurd c10 (by decide)
set_option maxHeartbeats 1000000 in
theorem k_rorder_w {E : xCl} {ex : Bool} {I I0 : Nat → Nat → Int32} {e : Int32} {J : Nat → Nat → Int64} {P : Nat → Nat → Nat} (hP : Pok P) (hI : xu I 347 2 0 = I0) {n : Nat} (hv : Vok (vR I0 0) n) {A : Nat} (hA : A < 2 ^ n) (hAT : rAT (I0 385) n A) {w k : Int32} (h : ¬ ((¬ w < 0 ∧ ¬ 9999 < w) ∧ ¬ k < 0)) (d : Nat) : xEx E ex (d + 3) yX11_order [.ref 347, .int (nI A), .int w, .int k] (SH, wE I e, J, P) (some (.int (-1))) (SH, wE I0 e, J, P) := by
  refine x_enter cqX11_order [some (.ref 347), some (.int (nI A)), some (.int w), some (.int k), none, none, none] rfl (by simp [lg_sl, Value.category]) ?_
  refine r_aload_n dX11_order_0 rfl ?_
  refine r_iconst (v := 0) dX11_order_1 (by decide) ?_
  refine r_putIv dX11_order_2 flX11_193 ⟨_, _, _, rfl, Or.inl rfl⟩ sh_347 (by decide) rfl rfl rfl ((wE_c _ _ _ (by decide)).trans (congrArg (fun z => wE z _) hI)) ?_
  refine r_aload_n dX11_order_5 rfl ?_
  refine r_iload_n dX11_order_6 rfl ?_
  refine r_cV1i dX11_order_7 vlX11_494 sh_347 (Nat.le_of_ble_eq_true rfl) (k_arTh_t hP hv.1 ((wE_o _ _ (by decide) _).trans hv.2.1) (S := A) (by have := pow12 hv.1; omega) hA ((rAT_eq (fun q _ => wE_o I0 e (by decide) q) n A hv.1).mpr hAT) d) ?_
  refine r_if_eq 28 dX11_order_10 (by decide) (fun c10 => ?_) (fun c10 => ?_)
  · exact absurd c10 (by decide)
  · refine r_iload_n dX11_order_13 rfl ?_
    refine r_iconst (v := 0) dX11_order_14 (by decide) ?_
    refine r_sipush (v := 9999) dX11_order_15 (by decide) ?_
    by_cases h18 : ¬ w < 0 ∧ ¬ 9999 < w
    · refine r_cS3i dX11_order_18 slX11_238 (Nat.le_of_ble_eq_true rfl) (k_isIn_t h18 (d + 1)) ?_
      refine r_if_eq 28 dX11_order_21 (by decide) (fun c21 => ?_) (fun c21 => ?_)
      · exact absurd c21 (by decide)
      · refine r_iload_n dX11_order_24 rfl ?_
        refine r_if_ge 30 dX11_order_25 (by decide) (fun c25 => ?_) (fun c25 => ?_)
        · exact absurd ⟨h18, Int32.not_lt.mpr c25⟩ h
        · refine r_iconst (v := (-1)) dX11_order_28 (by decide) ?_
          exact r_iret dX11_order_29 rfl rfl rfl rfl
    · refine r_cS3i dX11_order_18 slX11_238 (Nat.le_of_ble_eq_true rfl) (k_isIn_f h18 (d + 1)) ?_
      refine r_if_eq 28 dX11_order_21 (by decide) (fun c21 => ?_) (fun c21 => ?_)
      · refine r_iconst (v := (-1)) dX11_order_28 (by decide) ?_
        exact r_iret dX11_order_29 rfl rfl rfl rfl
      · exact absurd c21 (by decide)
