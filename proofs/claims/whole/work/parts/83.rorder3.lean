/-! the reference: layOrder whole, order -/
def oV (ok : Nat → Nat → Prop) (A q : Nat) (c : Nat → Int32) : Prop := ∀ S, q ≤ S → S < 4096 → (∀ k, S.testBit k = true → A.testBit k = true) → (c S = 1 ∧ eE ok A S) ∨ (c S = 0 ∧ ¬ eE ok A S)
theorem oV.g {ok : Nat → Nat → Prop} {A q : Nat} {c : Nat → Int32} (h : oV ok A q c) {S i : Nat} (hq : q ≤ S + 1) (hS : S < 4096) (hi : i < 12) (hSA : ∀ k, S.testBit k = true → A.testBit k = true) : (A.testBit i = true ∧ S.testBit i = false ∧ c (S ||| 2 ^ i) = 1 ∧ ok S i) ↔ gE ok A S i := by
  have key : A.testBit i = true → S.testBit i = false → (c (S ||| 2 ^ i) = 1 ↔ eE ok A (S ||| 2 ^ i)) := fun ha hs => by
    have h2 := or2_gt hs
    rcases h (S ||| 2 ^ i) (by omega) (or_lt (n := 12) hS (Nat.pow_lt_pow_right (by decide) hi)) (fun k hk => by rw [or2_bit] at hk; cases hz : S.testBit k <;> simp_all) with ⟨h3, h4⟩ | ⟨h3, h4⟩
    · exact ⟨fun _ => h4, fun _ => h3⟩
    · exact ⟨fun z => absurd (h3.symm.trans z) (by decide), fun z => absurd z h4⟩
  unfold gE
  constructor
  · rintro ⟨a, b, c1, d⟩; exact ⟨a, b, d, (key a b).mp c1⟩
  · rintro ⟨a, b, d, c1⟩; exact ⟨a, b, (key a b).mpr c1, d⟩
theorem dif_sub {S A : Nat} (hS : S < 4096) : (nI S &&& (nI A ^^^ (-1)) = 0) ↔ ∀ k, S.testBit k = true → A.testBit k = true := by
  rw [bz_dif, show (0 : Int32) = nI 0 from rfl, nI_eq (Nat.lt_of_le_of_lt (nD_le S A) (by omega)) (by decide)]
  exact nD_0 S A
theorem oV.s {ok : Nat → Nat → Prop} {A S : Nat} {c c2 : Nat → Int32} (h : oV ok A (S + 1) c) (h1 : ∀ k, k ≠ S → c2 k = c k) (h2 : (∀ k, S.testBit k = true → A.testBit k = true) → (c2 S = 1 ∧ eE ok A S) ∨ (c2 S = 0 ∧ ¬ eE ok A S)) : oV ok A S c2 := fun T hT h4 hs => by
  by_cases e : T = S
  · subst e; exact h2 hs
  · rw [h1 T e]; exact h T (by omega) h4 hs
theorem up0 (c : Nat → Int32) (S : Nat) (v : Int32) {k : Nat} (h : k ≠ S) : up c S v k = c k := by simp [up, h]
set_option maxHeartbeats 4000000 in
theorem l_ord {E : xCl} {ex : Bool} {I : Nat → Nat → Int32} {J : Nat → Nat → Int64} {P : Nat → Nat → Nat} (hP : Pok P) {n : Nat} (hv : Vok (vR I 0) n) (hk : Tok (vR I 0) n) (hp : Pt I) {L : Nat → (Nat → Int64) → Int64} (hL : LwR I L) (h7 : L7 L) {A : Nat} (hA : A < 2 ^ n) {w : Int32} (d : Nat) {Q : Option Value → xS → Prop} (K : ∀ c2 I2 e2 J2 W2, oI I c2 I2 → FX (vR I 0) W2 → JokR J J2 → oV (rCP (vR I 0) L n w) A 0 c2 → Q none (SH, wR (wE I2 e2) 1 W2, J2, P)) : ∀ q c I1 e1 J1 W, q ≤ 4096 → oI I c I1 → FX (vR I 0) W → JokR J J1 → oV (rCP (vR I 0) L n w) A q c → ∀ y, xR (xEx E ex (d + 7)) ex none yX11_layOrder cX11_layOrder none 4 [some (.ref 347), some (.int (nI A)), some (.int w), some (.int (nI q - 1)), y] [] (SH, wR (wE I1 e1) 1 W, J1, P) Q := by
  have hn12 := hv.1
  have hA12 : A < 4096 := Nat.lt_of_lt_of_le hA (pow12 hn12)
  intro q
  induction q with
  | zero =>
    intro c I1 e1 J1 W hq hI1 hfx hJ hInv y
    rw [show nI 0 - 1 = -1 from by decide]
    refine r_iload_n dX11_layOrder_4 rfl ?_
    refine r_if_lt 116 dX11_layOrder_5 (by decide) (fun c5 => ?_) (fun c5 => ?_)
    · exact r_vretq dX11_layOrder_116 rfl (K c I1 e1 J1 W hI1 hfx hJ hInv)
    · exact absurd (by decide) c5
  | succ S ih =>
    intro c I1 e1 J1 W hq hI1 hfx hJ hInv y
    have hS : S < 4096 := by omega
    rw [nI_m1]
    refine r_iload_n dX11_layOrder_4 rfl ?_
    refine r_if_lt 116 dX11_layOrder_5 (by decide) (fun c5 => ?_) (fun c5 => ?_)
    · exact absurd c5 (nI_pos (by omega))
    · refine r_aload_n dX11_layOrder_8 rfl ?_
      refine r_getR dX11_layOrder_9 flX11_145 sh_347 (by decide) rfl (pf_347_72 hP) ?_
      refine r_iload_n dX11_layOrder_12 rfl ?_
      refine r_iload_n dX11_layOrder_13 rfl ?_
      refine r_iload_n dX11_layOrder_14 rfl ?_
      refine r_ic_ne 22 dX11_layOrder_15 (by decide) (fun c15 => ?_) (fun c15 => ?_)
      · refine r_iconst (v := 0) dX11_layOrder_22 (by decide) ?_
        refine r_zasv dX11_layOrder_23 sh_391 (vp_in_nI (by omega) (by omega)) (show _ = wR (wE (xu I1 391 S 0) e1) 1 W from (wR_xo _ _ _ (by decide) _ _).trans (congrArg (fun z => wR z _ _) ((wE_c _ _ _ (fun z => absurd z.1 (by decide))).trans (by rw [nI_clamp (n := S) (by omega)]; rfl)))) ?_
        refine r_iload_n dX11_layOrder_24 rfl ?_
        refine r_iload_n dX11_layOrder_25 rfl ?_
        refine r_iconst (v := (-1)) dX11_layOrder_26 (by decide) ?_
        refine r_ixor dX11_layOrder_27 ?_
        refine r_iand dX11_layOrder_28 ?_
        refine r_if_eq 35 dX11_layOrder_29 (by decide) (fun c29 => ?_) (fun c29 => ?_)
        · refine r_iconst (v := 0) dX11_layOrder_35 (by decide) ?_
          refine r_istore4 dX11_layOrder_36 rfl ?_
          refine l_ord1 (c := up c S 0) hP hv hk hp hL h7 hA hS ((dif_sub hS).mp c29) (up_s _ _ _) (fun k h1 h2 h3 => ?_) d (fun c2 I2 e2 J2 W2 y h2 hf2 hj2 hne hr => ?_) n 0 _ e1 J1 W (Nat.zero_add _) (hI1.x hS 0) hfx hJ (fun i hi => absurd hi (by omega))
          · rw [show up c S 0 k = c k from up0 c S 0 (by omega)]; rcases hInv k (by omega) h2 h3 with z | z
            · exact Or.inr z.1
            · exact Or.inl z.1
          · have hinv := (hInv.s (fun k hk => (hne k hk).trans (up0 c S 0 hk)) (fun hs => by
              have hg : ∀ i, i < 12 → ((A.testBit i = true ∧ S.testBit i = false ∧ up c S 0 (S ||| 2 ^ i) = 1 ∧ (rCP (vR I 0) L n w) S i) ↔ gE (rCP (vR I 0) L n w) A S i) := fun i hi => by
                rw [← hInv.g (by omega) hS hi hs]
                constructor
                · rintro ⟨a, b, c1, d⟩; exact ⟨a, b, by rw [← c1]; exact (up0 c S 0 (Nat.ne_of_gt (or2_gt b))).symm, d⟩
                · rintro ⟨a, b, c1, d⟩; exact ⟨a, b, by rw [← c1]; exact up0 c S 0 (Nat.ne_of_gt (or2_gt b)), d⟩
              rcases hr with ⟨h5, i, hi, h6⟩ | ⟨h5, h6⟩
              · exact Or.inl ⟨h5, (eE_iff _ _ _).mpr (Or.inr ⟨i, by omega, (hg i (by omega)).mp h6⟩)⟩
              · refine Or.inr ⟨h5, fun z => ?_⟩
                rcases (eE_iff _ _ _).mp z with z | ⟨i, hi, z⟩
                · exact c15 (by rw [z])
                · exact h6 i (bit_lt hA z.1) ((hg i hi).mpr z)))
            refine r_iinc3 (v := (-1)) dX11_layOrder_110 (by decide) rfl ?_
            refine r_goto 4 dX11_layOrder_113 (by decide) ?_
            rw [pm1]; exact ih c2 I2 e2 J2 W2 (by omega) h2 hf2 hj2 hinv _
        · refine r_goto 110 dX11_layOrder_32 (by decide) ?_
          refine r_iinc3 (v := (-1)) dX11_layOrder_110 (by decide) rfl ?_
          refine r_goto 4 dX11_layOrder_113 (by decide) ?_
          rw [pm1]; exact ih (up c S 0) _ e1 J1 W (by omega) (hI1.x hS 0) hfx hJ (hInv.s (fun k hk => show up c S 0 k = c k from by simp [up, hk]) (fun z => absurd ((dif_sub hS).mpr z) c29)) _
      · refine r_iconst (v := 1) dX11_layOrder_18 (by decide) ?_
        refine r_goto 23 dX11_layOrder_19 (by decide) ?_
        refine r_zasv dX11_layOrder_23 sh_391 (vp_in_nI (by omega) (by omega)) (show _ = wR (wE (xu I1 391 S 1) e1) 1 W from (wR_xo _ _ _ (by decide) _ _).trans (congrArg (fun z => wR z _ _) ((wE_c _ _ _ (fun z => absurd z.1 (by decide))).trans (by rw [nI_clamp (n := S) (by omega)]; rfl)))) ?_
        refine r_iload_n dX11_layOrder_24 rfl ?_
        refine r_iload_n dX11_layOrder_25 rfl ?_
        refine r_iconst (v := (-1)) dX11_layOrder_26 (by decide) ?_
        refine r_ixor dX11_layOrder_27 ?_
        refine r_iand dX11_layOrder_28 ?_
        refine r_if_eq 35 dX11_layOrder_29 (by decide) (fun c29 => ?_) (fun c29 => ?_)
        · refine r_iconst (v := 0) dX11_layOrder_35 (by decide) ?_
          refine r_istore4 dX11_layOrder_36 rfl ?_
          refine e_ord (c := up c S 1) hP hv hS (hI1.x hS 1) (up_s _ _ _) d (fun y => ?_)
          refine r_iinc3 (v := (-1)) dX11_layOrder_110 (by decide) rfl ?_
          refine r_goto 4 dX11_layOrder_113 (by decide) ?_
          rw [pm1]; exact ih (up c S 1) _ e1 J1 W (by omega) (hI1.x hS 1) hfx hJ (hInv.s (fun k hk => show up c S 1 k = c k from by simp [up, hk]) (fun _ => Or.inl ⟨up_s _ _ _, (eE_iff _ _ _).mpr (Or.inl ((nI_eq (a := S) (b := A) (by omega) (by omega)).mp c15))⟩)) _
        · refine r_goto 110 dX11_layOrder_32 (by decide) ?_
          refine r_iinc3 (v := (-1)) dX11_layOrder_110 (by decide) rfl ?_
          refine r_goto 4 dX11_layOrder_113 (by decide) ?_
          rw [pm1]; exact ih (up c S 1) _ e1 J1 W (by omega) (hI1.x hS 1) hfx hJ (hInv.s (fun k hk => show up c S 1 k = c k from by simp [up, hk]) (fun z => absurd ((dif_sub hS).mpr z) c29)) _
set_option maxHeartbeats 2000000 in
theorem k_layOrder {E : xCl} {ex : Bool} {I : Nat → Nat → Int32} {e : Int32} {J : Nat → Nat → Int64} {P : Nat → Nat → Nat} (hP : Pok P) {n : Nat} (hv : Vok (vR I 0) n) (hk : Tok (vR I 0) n) (hp : Pt I) {L : Nat → (Nat → Int64) → Int64} (hL : LwR I L) (h7 : L7 L) {A : Nat} (hA : A < 2 ^ n) {w : Int32} {I1 W : Nat → Nat → Int32} (hI1 : I1 = I ∨ I1 = rPl I) (hfx : FX (vR I 0) W) (d : Nat) : ∃ c2 I2 e2 J2 W2, oI I c2 I2 ∧ oV (rCP (vR I 0) L n w) A 0 c2 ∧ xEx E ex (d + 8) yX11_layOrder [.ref 347, .int (nI A), .int w] (SH, wR (wE I1 e) 1 W, J, P) none (SH, wR (wE I2 e2) 1 W2, J2, P) ∧ JokR J J2 ∧ FX (vR I 0) W2 := by
  have key : ∃ r1 S1, xEx E ex (d + 7 + 1) yX11_layOrder [.ref 347, .int (nI A), .int w] (SH, wR (wE I1 e) 1 W, J, P) r1 S1 ∧ (r1 = none ∧ ∃ c2 I2 e2 J2 W2, oI I c2 I2 ∧ oV (rCP (vR I 0) L n w) A 0 c2 ∧ S1 = (SH, wR (wE I2 e2) 1 W2, J2, P) ∧ JokR J J2 ∧ FX (vR I 0) W2) := by
    refine x_enterq (Q := fun r1 S1 => r1 = none ∧ ∃ c2 I2 e2 J2 W2, oI I c2 I2 ∧ oV (rCP (vR I 0) L n w) A 0 c2 ∧ S1 = (SH, wR (wE I2 e2) 1 W2, J2, P) ∧ JokR J J2 ∧ FX (vR I 0) W2) (d := d + 7) cqX11_layOrder [some (.ref 347), some (.int (nI A)), some (.int w), none, none] rfl (by simp [lg_sl, Value.category]) ?_
    refine r_sipush (v := 4095) dX11_layOrder_0 (by decide) ?_
    refine r_istore_n3 dX11_layOrder_3 rfl ?_
    refine l_ord (I := I) (J := J) hP hv hk hp hL h7 hA d (fun c2 I2 e2 J2 W2 h2 hf2 hj2 hv2 => ⟨rfl, c2, I2, e2, J2, W2, h2, hv2, rfl, hj2, hf2⟩) 4096 (I 391) I1 e J W (Nat.le_refl _) (by unfold oI; rw [wO_id]; exact hI1) hfx (JokR.rf J) (fun S h1 h2 => absurd h2 (by omega)) _
  obtain ⟨r1, S1, h1, h2, c2, I2, e2, J2, W2, a1, a2, a3, a4, a5⟩ := key
  subst h2; subst a3
  exact ⟨c2, I2, e2, J2, W2, a1, a2, h1, a4, a5⟩
