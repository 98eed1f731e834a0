/-! the reference: drop whole -/
/-- a bridge with the strands of a set cut -/
def cV (V : Nat → Nat → Int32) (S : Nat) : Nat → Nat → Nat → Int32
  | 0 => V
  | j + 1 => if S.testBit j = true then xu (cV V S j) 9 j 2 else cV V S j
theorem Vok.cut {V : Nat → Nat → Int32} {n : Nat} (h : Vok V n) (S : Nat) : ∀ j, Vok (cV V S j) n
  | 0 => h
  | j + 1 => by
    rw [cV]; split
    · exact (Vok.cut h S j).xu (by decide) (by decide) (by decide)
    · exact Vok.cut h S j
theorem Tok.cut {V : Nat → Nat → Int32} {n : Nat} (h : Tok V n) (S : Nat) : ∀ j, Tok (cV V S j) n
  | 0 => h
  | j + 1 => by
    rw [cV]; split
    · exact (Tok.cut h S j).xu (by decide)
    · exact Tok.cut h S j
theorem FX.cut {V W : Nat → Nat → Int32} (h : FX V W) (S : Nat) : ∀ j, FX V (cV W S j)
  | 0 => h
  | j + 1 => by
    rw [cV]; split
    · exact (FX.cut h S j).xu (by decide)
    · exact FX.cut h S j
/-- one set tried: the best so far -/
noncomputable def rDs (h9 : Nat → Int32) (B : Nat → Int32) (n : Nat) (w : Int32) (S : Nat) (b : Int32) : Int32 := @ite _ (rAT h9 n S ∧ (b < 0 ∨ rMo (nI S) 12 < rMo b 12) ∧ B S < w) (Classical.propDecidable _) (nI S) b
noncomputable def rDp (h9 : Nat → Int32) (B : Nat → Int32) (n : Nat) (w : Int32) : Nat → Int32
  | 0 => -2
  | S + 1 => rDs h9 B n w S (rDp h9 B n w S)
theorem rDs_t {h9 B : Nat → Int32} {n S : Nat} {w b : Int32} (h : rAT h9 n S ∧ (b < 0 ∨ rMo (nI S) 12 < rMo b 12) ∧ B S < w) : rDs h9 B n w S b = nI S := if_pos h
theorem rDs_f {h9 B : Nat → Int32} {n S : Nat} {w b : Int32} (h : ¬ (rAT h9 n S ∧ (b < 0 ∨ rMo (nI S) 12 < rMo b 12) ∧ B S < w)) : rDs h9 B n w S b = b := if_neg h
set_option maxHeartbeats 1000000 in
theorem l_rcut {E : xCl} {ex : Bool} {I V : Nat → Nat → Int32} {e1 : Int32} {J1 : Nat → Nat → Int64} {P : Nat → Nat → Nat} (hP : Pok P) {n : Nat} (hv : Vok V n) {S : Nat} (hS31 : S < 2 ^ 31) {w b : Int32} (d : Nat) {Q : Option Value → xS → Prop} (K : xR (xEx E ex (d + 7)) ex none yX11_drop cX11_drop (some .int) 105 [some (.ref 347), some (.int w), some (.int b), some (.int (nI S)), some (.int (nI n))] [] (SH, wR (wE (rPl I) e1) 1 (cV V S n), J1, P) Q) : ∀ j, j ≤ n → xR (xEx E ex (d + 7)) ex none yX11_drop cX11_drop (some .int) 68 [some (.ref 347), some (.int w), some (.int b), some (.int (nI S)), some (.int (nI j))] [] (SH, wR (wE (rPl I) e1) 1 (cV V S j), J1, P) Q := by
  have hn := hv.1
  refine r_for (fun j => xR (xEx E ex (d + 7)) ex none yX11_drop cX11_drop (some .int) 68 [some (.ref 347), some (.int w), some (.int b), some (.int (nI S)), some (.int (nI j))] [] (SH, wR (wE (rPl I) e1) 1 (cV V S j), J1, P) Q) _ ?_ ?_
  · intro j hj ih
    have hvj := hv.cut S j
    refine r_iload dX11_drop_68 rfl ?_
    refine r_aload_n dX11_drop_70 rfl ?_
    refine r_getR dX11_drop_71 flX11_106 sh_347 (by decide) rfl (pf_347_55 hP) ?_
    refine r_iconst (v := 1) dX11_drop_74 (by decide) ?_
    refine r_ialv dX11_drop_75 sh_378 ix2_1 (rS13_1 _ _) ?_
    refine r_ic_ge 105 dX11_drop_76 (by decide) (fun c76 => ?_) (fun c76 => ?_)
    · exact absurd c76 (hvj.g hj)
    · refine r_iload_n dX11_drop_79 rfl ?_
      refine r_iload dX11_drop_80 rfl ?_
      by_cases h82 : (nI S >>> (nI j &&& 31)) &&& 1 = 1
      · refine r_cS2i dX11_drop_82 slX11_485 (Nat.le_of_ble_eq_true rfl) (k_isOf_t h82 (d + 6)) ?_
        have b82 := (bz_1 hS31 (by omega)).mp h82
        refine r_if_eq 99 dX11_drop_85 (by decide) (fun c85 => ?_) (fun c85 => ?_)
        · exact absurd c85 (by decide)
        · refine r_aload_n dX11_drop_88 rfl ?_
          refine r_getR dX11_drop_89 flX11_127 sh_347 (by decide) rfl (pf_347_62 hP) ?_
          refine r_bipush (v := 12) dX11_drop_92 (by decide) ?_
          refine r_iload dX11_drop_94 rfl ?_
          refine r_iadd dX11_drop_96 ?_
          refine r_iconst (v := 2) dX11_drop_97 (by decide) ?_
          refine r_iasv dX11_drop_98 sh_385 (io12 (hvj.i hj)) ((rP9 _ _ (hvj.i hj) _).trans (by rw [hvj.c hj])) ?_
          refine r_iinc4 (v := 1) dX11_drop_99 (by decide) rfl ?_
          refine r_goto 68 dX11_drop_102 (by decide) ?_
          rw [nI_1]; rw [cV, if_pos b82] at ih; exact ih
      · refine r_cS2i dX11_drop_82 slX11_485 (Nat.le_of_ble_eq_true rfl) (k_isOf_f h82 (d + 6)) ?_
        have b82 : ¬ S.testBit j = true := fun z => h82 ((bz_1 hS31 (by omega)).mpr z)
        refine r_if_eq 99 dX11_drop_85 (by decide) (fun c85 => ?_) (fun c85 => ?_)
        · refine r_iinc4 (v := 1) dX11_drop_99 (by decide) rfl ?_
          refine r_goto 68 dX11_drop_102 (by decide) ?_
          rw [nI_1]; rw [cV, if_neg b82] at ih; exact ih
        · exact absurd c85 (by decide)
  · refine r_iload dX11_drop_68 rfl ?_
    refine r_aload_n dX11_drop_70 rfl ?_
    refine r_getR dX11_drop_71 flX11_106 sh_347 (by decide) rfl (pf_347_55 hP) ?_
    refine r_iconst (v := 1) dX11_drop_74 (by decide) ?_
    refine r_ialv dX11_drop_75 sh_378 ix2_1 (rS13_1 _ _) ?_
    refine r_ic_ge 105 dX11_drop_76 (by decide) (fun c76 => ?_) (fun c76 => ?_)
    · exact K
    · exact absurd (hv.cut S n).l c76
theorem rAT_eq {h g : Nat → Int32} (e : ∀ k, k < 12 → h k = g k) (n S : Nat) (hn : n ≤ 12) : rAT h n S ↔ rAT g n S := by
  unfold rAT
  constructor
  · intro z j hj hb; rw [← e j (by omega)]; exact z j hj hb
  · intro z j hj hb; rw [e j (by omega)]; exact z j hj hb
/-- what of the now bridge's rows is read while the tried one is changed -/
theorem fr378 {I I1 : Nat → Nat → Int32} (hI1 : I1 = I ∨ I1 = rPl I) (e1 : Int32) (W : Nat → Nat → Int32) : wR (wE I1 e1) 1 W 378 0 = I 378 0 := by
  have h := rN13 (wE I1 e1) W
  rw [show (0 : Int32).toNatClampNeg = 0 from rfl] at h
  rw [h, wE_o _ _ (by decide)]
  rcases hI1 with rfl | rfl
  · rfl
  · exact rPl_o (by decide) _
theorem fr385 {I I1 : Nat → Nat → Int32} (hI1 : I1 = I ∨ I1 = rPl I) (e1 : Int32) (W : Nat → Nat → Int32) : ∀ k, k < 12 → wR (wE I1 e1) 1 W 385 k = I 385 k := fun k hk => by
  have h := rN9 (wE I1 e1) W hk
  rw [nI_clamp (by omega)] at h
  rw [h, wE_o _ _ (by decide)]
  rcases hI1 with rfl | rfl
  · rfl
  · exact rPl_o (by decide) _
theorem pow12 {n : Nat} (h : n ≤ 12) : 2 ^ n ≤ 4096 := Nat.pow_le_pow_right (n := 2) (by decide) h
def QD (I V : Nat → Nat → Int32) (J : Nat → Nat → Int64) (P : Nat → Nat → Nat) (r : Option Value) : Option Value → xS → Prop := fun r1 S1 => r1 = r ∧ ∃ I1 e' J' W', (I1 = I ∨ I1 = rPl I) ∧ S1 = (SH, wR (wE I1 e') 1 W', J', P) ∧ JokR J J' ∧ FX V W'
set_option maxHeartbeats 4000000 in
theorem l_rdrop {E : xCl} {ex : Bool} {I : Nat → Nat → Int32} {J : Nat → Nat → Int64} {P : Nat → Nat → Nat} (hP : Pok P) (hp : Pt I) {n : Nat} (hv : Vok (vR I 0) n) (hk : Tok (vR I 0) n) {L : Nat → (Nat → Int64) → Int64} (hL : LwR I L) (h7 : L7 L) (w : Int32) (d : Nat) : ∀ c S I1 e1 J1 W, S + c = 2 ^ n → (I1 = I ∨ I1 = rPl I) → FX (vR I 0) W → JokR J J1 → ∀ y4, xR (xEx E ex (d + 7)) ex none yX11_drop cX11_drop (some .int) 23 [some (.ref 347), some (.int w), some (.int (rDp (I 385) (fun S => sBr (cV (vR I 0) S n) L n) n w S)), some (.int (nI S)), y4] [] (SH, wR (wE I1 e1) 1 W, J1, P) (QD I (vR I 0) J P (some (.int (rDp (I 385) (fun S => sBr (cV (vR I 0) S n) L n) n w (2 ^ n))))) := by
  intro c
  induction c with
  | zero =>
    intro S I1 e1 J1 W hS hI1 hfx hJ y4
    have hn12 := hv.1
    have h378 : I 378 0 = nI n := hv.2.1
    have hI378 := fr378 hI1 e1 W
    have hI385 := fr385 hI1 e1 W
    have hp12 := pow12 hn12
    refine r_iload_n dX11_drop_23 rfl ?_
    refine r_iconst (v := 1) dX11_drop_24 (by decide) ?_
    refine r_aload_n dX11_drop_25 rfl ?_
    refine r_getR dX11_drop_26 flX11_106 sh_347 (by decide) rfl (pf_347_55 hP) ?_
    refine r_iconst (v := 0) dX11_drop_29 (by decide) ?_
    refine r_ialv dX11_drop_30 sh_378 ix2_0 ((congrArg (wR (wE I1 e1) 1 W 378) (show (0 : Int32).toNatClampNeg = 0 from rfl)).trans (hI378.trans h378)) ?_
    refine r_ishl dX11_drop_31 ?_
    refine r_ic_ge 122 dX11_drop_32 (by decide) (fun c32 => ?_) (fun c32 => ?_)
    · refine r_iload_n dX11_drop_122 rfl ?_
      exact r_iretq dX11_drop_123 rfl rfl (by rw [show S = 2 ^ n by omega]; exact ⟨rfl, I1, e1, J1, W, hI1, rfl, hJ, hfx⟩)
    · exact absurd (by rw [bz_shl n (by omega)]; exact nI_le (by omega) (by have := pow12 hn12; omega)) c32
  | succ c ih =>
    intro S I1 e1 J1 W hS hI1 hfx hJ y4
    have hn12 := hv.1
    have h378 : I 378 0 = nI n := hv.2.1
    have hI378 := fr378 hI1 e1 W
    have hI385 := fr385 hI1 e1 W
    have hp12 := pow12 hn12
    have hSn : S < 2 ^ n := by omega
    refine r_iload_n dX11_drop_23 rfl ?_
    refine r_iconst (v := 1) dX11_drop_24 (by decide) ?_
    refine r_aload_n dX11_drop_25 rfl ?_
    refine r_getR dX11_drop_26 flX11_106 sh_347 (by decide) rfl (pf_347_55 hP) ?_
    refine r_iconst (v := 0) dX11_drop_29 (by decide) ?_
    refine r_ialv dX11_drop_30 sh_378 ix2_0 ((congrArg (wR (wE I1 e1) 1 W 378) (show (0 : Int32).toNatClampNeg = 0 from rfl)).trans (hI378.trans h378)) ?_
    refine r_ishl dX11_drop_31 ?_
    refine r_ic_ge 122 dX11_drop_32 (by decide) (fun c32 => ?_) (fun c32 => ?_)
    · exact absurd c32 (by rw [bz_shl n (by omega)]; exact nI_ge hSn (by have := pow12 hn12; omega))
    · refine r_aload_n dX11_drop_35 rfl ?_
      refine r_iload_n dX11_drop_36 rfl ?_
      by_cases h37 : rAT (I 385) n S
      · refine r_cV1i dX11_drop_37 vlX11_494 sh_347 (Nat.le_of_ble_eq_true rfl) (k_arTh_t hP hn12 (hI378.trans h378) (S := S) (by omega) hSn ((rAT_eq hI385 n S hn12).mpr h37) (d + 5)) ?_
        refine r_if_eq 116 dX11_drop_40 (by decide) (fun c40 => ?_) (fun c40 => ?_)
        · exact absurd c40 (by decide)
        · refine r_iload_n dX11_drop_43 rfl ?_
          refine r_if_lt 61 dX11_drop_44 (by decide) (fun c44 => ?_) (fun c44 => ?_)
          · refine r_aload_n dX11_drop_61 rfl ?_
            refine r_cV0v dX11_drop_62 vlX11_482 sh_347 (Nat.le_of_ble_eq_true rfl) (k_lay3 hP hp hI1 hfx (d + 5)) ?_
            refine r_iconst (v := 0) dX11_drop_65 (by decide) ?_
            refine r_istore4 dX11_drop_66 rfl ?_
            refine l_rcut (I := I) (V := vR I 0) hP hv (by omega) d ?_ 0 (Nat.zero_le _)
            refine r_aload_n dX11_drop_105 rfl ?_
            refine r_iconst (v := 1) dX11_drop_106 (by decide) ?_
            obtain ⟨e9, J9, hx9, hj9⟩ := k_rbridge (E := E) (ex := ex) (I := rPl I) (V := cV (vR I 0) S n) (e := e1) (J := J1) hP (b := 1) (by decide) (hv.cut S n) (hk.cut S n) hL.pl h7 (d + 1)
            have hj9 := hJ.tr hj9
            refine r_cV1i dX11_drop_107 vlX11_443 sh_347 (Nat.le_of_ble_eq_true rfl) hx9 ?_
            refine r_iload_n dX11_drop_110 rfl ?_
            refine r_ic_ge 116 dX11_drop_111 (by decide) (fun c111 => ?_) (fun c111 => ?_)
            · refine r_iinc3 (v := 1) dX11_drop_116 (by decide) rfl ?_
              refine r_goto 23 dX11_drop_119 (by decide) ?_
              rw [nI_1]; have z := ih (S + 1) (rPl I) e9 J9 _ (by omega) (Or.inr rfl) ((FX.rf _).cut S n) hj9; rw [rDp, rDs_f (h9 := I 385) (B := (fun S => sBr (cV (vR I 0) S n) L n)) (n := n) (S := S) (w := w) (fun z => Int32.not_le.mpr z.2.2 c111)] at z; exact z _
            · refine r_iload_n dX11_drop_114 rfl ?_
              refine r_istore_n2 dX11_drop_115 rfl ?_
              refine r_iinc3 (v := 1) dX11_drop_116 (by decide) rfl ?_
              refine r_goto 23 dX11_drop_119 (by decide) ?_
              rw [nI_1]; have z := ih (S + 1) (rPl I) e9 J9 _ (by omega) (Or.inr rfl) ((FX.rf _).cut S n) hj9; rw [rDp, rDs_t ⟨h37, Or.inl c44, Int32.not_le.mp c111⟩] at z; exact z _
          · refine r_iload_n dX11_drop_47 rfl ?_
            refine r_cS1i dX11_drop_48 slX11_500 (Nat.le_of_ble_eq_true rfl) (k_manyOf _ (d + 6)) ?_
            refine r_iload_n dX11_drop_51 rfl ?_
            refine r_cS1i dX11_drop_52 slX11_500 (Nat.le_of_ble_eq_true rfl) (k_manyOf _ (d + 6)) ?_
            refine r_ic_lt 61 dX11_drop_55 (by decide) (fun c55 => ?_) (fun c55 => ?_)
            · refine r_aload_n dX11_drop_61 rfl ?_
              refine r_cV0v dX11_drop_62 vlX11_482 sh_347 (Nat.le_of_ble_eq_true rfl) (k_lay3 hP hp hI1 hfx (d + 5)) ?_
              refine r_iconst (v := 0) dX11_drop_65 (by decide) ?_
              refine r_istore4 dX11_drop_66 rfl ?_
              refine l_rcut (I := I) (V := vR I 0) hP hv (by omega) d ?_ 0 (Nat.zero_le _)
              refine r_aload_n dX11_drop_105 rfl ?_
              refine r_iconst (v := 1) dX11_drop_106 (by decide) ?_
              obtain ⟨e9, J9, hx9, hj9⟩ := k_rbridge (E := E) (ex := ex) (I := rPl I) (V := cV (vR I 0) S n) (e := e1) (J := J1) hP (b := 1) (by decide) (hv.cut S n) (hk.cut S n) hL.pl h7 (d + 1)
              have hj9 := hJ.tr hj9
              refine r_cV1i dX11_drop_107 vlX11_443 sh_347 (Nat.le_of_ble_eq_true rfl) hx9 ?_
              refine r_iload_n dX11_drop_110 rfl ?_
              refine r_ic_ge 116 dX11_drop_111 (by decide) (fun c111 => ?_) (fun c111 => ?_)
              · refine r_iinc3 (v := 1) dX11_drop_116 (by decide) rfl ?_
                refine r_goto 23 dX11_drop_119 (by decide) ?_
                rw [nI_1]; have z := ih (S + 1) (rPl I) e9 J9 _ (by omega) (Or.inr rfl) ((FX.rf _).cut S n) hj9; rw [rDp, rDs_f (h9 := I 385) (B := (fun S => sBr (cV (vR I 0) S n) L n)) (n := n) (S := S) (w := w) (fun z => Int32.not_le.mpr z.2.2 c111)] at z; exact z _
              · refine r_iload_n dX11_drop_114 rfl ?_
                refine r_istore_n2 dX11_drop_115 rfl ?_
                refine r_iinc3 (v := 1) dX11_drop_116 (by decide) rfl ?_
                refine r_goto 23 dX11_drop_119 (by decide) ?_
                rw [nI_1]; have z := ih (S + 1) (rPl I) e9 J9 _ (by omega) (Or.inr rfl) ((FX.rf _).cut S n) hj9; rw [rDp, rDs_t ⟨h37, Or.inr c55, Int32.not_le.mp c111⟩] at z; exact z _
            · refine r_goto 116 dX11_drop_58 (by decide) ?_
              refine r_iinc3 (v := 1) dX11_drop_116 (by decide) rfl ?_
              refine r_goto 23 dX11_drop_119 (by decide) ?_
              rw [nI_1]; have z := ih (S + 1) I1 e1 J1 W (by omega) hI1 hfx hJ; rw [rDp, rDs_f (fun z => z.2.1.elim c44 c55)] at z; exact z _
      · refine r_cV1i dX11_drop_37 vlX11_494 sh_347 (Nat.le_of_ble_eq_true rfl) (k_arTh_f hP hn12 (hI378.trans h378) (S := S) (by omega) hSn (fun z => h37 ((rAT_eq hI385 n S hn12).mp z)) (d + 5)) ?_
        refine r_if_eq 116 dX11_drop_40 (by decide) (fun c40 => ?_) (fun c40 => ?_)
        · refine r_iinc3 (v := 1) dX11_drop_116 (by decide) rfl ?_
          refine r_goto 23 dX11_drop_119 (by decide) ?_
          rw [nI_1]; have z := ih (S + 1) I1 e1 J1 W (by omega) hI1 hfx hJ; rw [rDp, rDs_f (fun z => h37 z.1)] at z; exact z _
        · exact absurd c40 (by decide)
set_option maxHeartbeats 1000000 in
theorem k_rdrop_n {E : xCl} {ex : Bool} {I I0 : Nat → Nat → Int32} {e : Int32} {J : Nat → Nat → Int64} {P : Nat → Nat → Nat} (hP : Pok P) (hI : xu I 347 2 0 = I0) {w : Int32} (h : ¬ (¬ w < 1 ∧ ¬ 9999 < w)) (d : Nat) : xEx E ex (d + 2) yX11_drop [.ref 347, .int w] (SH, wE I e, J, P) (some (.int (-1))) (SH, wE I0 e, J, P) := by
  refine x_enter cqX11_drop [some (.ref 347), some (.int w), none, none, none] rfl (by simp [lg_sl, Value.category]) ?_
  refine r_aload_n dX11_drop_0 rfl ?_
  refine r_iconst (v := 0) dX11_drop_1 (by decide) ?_
  refine r_putIv dX11_drop_2 flX11_193 ⟨_, _, _, rfl, Or.inl rfl⟩ sh_347 (by decide) rfl rfl rfl ((wE_c _ _ _ (by decide)).trans (congrArg (fun z => wE z _) hI)) ?_
  refine r_iload_n dX11_drop_5 rfl ?_
  refine r_iconst (v := 1) dX11_drop_6 (by decide) ?_
  refine r_sipush (v := 9999) dX11_drop_7 (by decide) ?_
  refine r_cS3i dX11_drop_10 slX11_238 (Nat.le_of_ble_eq_true rfl) (k_isIn_f h d) ?_
  refine r_if_ne 18 dX11_drop_13 (by decide) (fun c13 => ?_) (fun c13 => ?_)
  · exact absurd c13 (by decide)
  · refine r_iconst (v := (-1)) dX11_drop_16 (by decide) ?_
    exact r_iret dX11_drop_17 rfl rfl rfl rfl
set_option maxHeartbeats 2000000 in
theorem k_rdrop {E : xCl} {ex : Bool} {I I0 : Nat → Nat → Int32} {e : Int32} {J : Nat → Nat → Int64} {P : Nat → Nat → Nat} (hP : Pok P) (hI : xu I 347 2 0 = I0)  (hp : Pt I0) {n : Nat} (hv : Vok (vR I0 0) n) (hk : Tok (vR I0 0) n) {L : Nat → (Nat → Int64) → Int64} (hL : LwR I0 L) (h7 : L7 L) {w : Int32} (h : ¬ w < 1 ∧ ¬ 9999 < w) (d : Nat) : ∃ I1 e' J' W', (I1 = I0 ∨ I1 = rPl I0) ∧ xEx E ex (d + 8) yX11_drop [.ref 347, .int w] (SH, wE I e, J, P) (some (.int (rDp (I0 385) (fun S => sBr (cV (vR I0 0) S n) L n) n w (2 ^ n)))) (SH, wR (wE I1 e') 1 W', J', P) ∧ JokR J J' ∧ FX (vR I0 0) W' := by
  have key : ∃ r1 S1, xEx E ex (d + 7 + 1) yX11_drop [.ref 347, .int w] (SH, wE I e, J, P) r1 S1 ∧ QD I0 (vR I0 0) J P (some (.int (rDp (I0 385) (fun S => sBr (cV (vR I0 0) S n) L n) n w (2 ^ n)))) r1 S1 := by
    refine x_enterq (d := d + 7) cqX11_drop [some (.ref 347), some (.int w), none, none, none] rfl (by simp [lg_sl, Value.category]) ?_
    refine r_aload_n dX11_drop_0 rfl ?_
    refine r_iconst (v := 0) dX11_drop_1 (by decide) ?_
    refine r_putIv dX11_drop_2 flX11_193 ⟨_, _, _, rfl, Or.inl rfl⟩ sh_347 (by decide) rfl rfl rfl ((wE_c _ _ _ (by decide)).trans (congrArg (fun z => wE z _) hI)) ?_
    refine r_iload_n dX11_drop_5 rfl ?_
    refine r_iconst (v := 1) dX11_drop_6 (by decide) ?_
    refine r_sipush (v := 9999) dX11_drop_7 (by decide) ?_
    refine r_cS3i dX11_drop_10 slX11_238 (Nat.le_of_ble_eq_true rfl) (k_isIn_t h (d + 6)) ?_
    refine r_if_ne 18 dX11_drop_13 (by decide) (fun c13 => ?_) (fun c13 => ?_)
    · refine r_bipush (v := (-2)) dX11_drop_18 (by decide) ?_
      refine r_istore_n2 dX11_drop_20 rfl ?_
      refine r_iconst (v := 0) dX11_drop_21 (by decide) ?_
      refine r_istore_n3 dX11_drop_22 rfl ?_
      have z := l_rdrop (E := E) (ex := ex) (I := I0) (J := J) hP hp hv hk hL h7 w d (2 ^ n) 0 I0 e J (vR I0 1) (Nat.zero_add _) (Or.inl rfl) (FX.v1 I0) (JokR.rf J) none
      rw [raw1 hp] at z; exact z
    · exact absurd c13 (by decide)
  obtain ⟨r1, S1, h1, h2, I1, e9, J9, W9, hI1, h9, h10, h11⟩ := key
  subst h2; subst h9
  exact ⟨I1, e9, J9, W9, hI1, h1, h10, h11⟩
