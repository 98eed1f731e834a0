/-! the reference: layWar whole, rests, rest -/
def gM (V : Nat → Nat → Int32) (L : Nat → (Nat → Int64) → Int64) (h9 sd : Nat → Int32) (n : Nat) (w : Int32) (g : Nat) : Int32 := if sBr (gV V h9 sd g n) L n < 1 then 0 else w
def gEs (I : Nat → Nat → Int32) (L : Nat → (Nat → Int64) → Int64) (n : Nat) (w : Int32) (g : Nat) : Int32 := gA (I 385) (rSd I) (I 383) g n + gM (vR I 0) L (I 385) (rSd I) n w g
def gWs (I : Nat → Nat → Int32) (L : Nat → (Nat → Int64) → Int64) (n : Nat) (w : Int32) (g : Nat) : Int32 := gB (I 385) (rSd I) (I 383) g n + gM (vR I 0) L (I 385) (rSd I) n w g
def uA (A f : Nat → Int32) : Nat → Nat → Int32
  | 0 => A
  | g + 1 => up (uA A f g) g (f g)
theorem uA_v (A f : Nat → Int32) {k : Nat} : ∀ n, k < n → uA A f n k = f k
  | 0, h => absurd h (by omega)
  | n + 1, h => by
    rw [uA]
    by_cases e : k = n
    · subst e; exact up_s _ _ _
    · rw [show up (uA A f n) n (f n) k = uA A f n k from by simp [up, e]]; exact uA_v A f n (by omega)
set_option maxHeartbeats 4000000 in
theorem l_rwar {E : xCl} {ex : Bool} {I : Nat → Nat → Int32} {J : Nat → Nat → Int64} {P : Nat → Nat → Nat} (hP : Pok P) (hp : Pt I) {n : Nat} (hv : Vok (vR I 0) n) (hk : Tok (vR I 0) n) (h3 : ∀ k, vp_in (I 379 k) 6) {L : Nat → (Nat → Int64) → Int64} (hL : LwR I L) (h7 : L7 L) {A B : Nat → Int32} (w : Int32) (d : Nat) : ∀ c g I1 e1 J1 W, g + c = 4 → (I1 = wH I (uA A (gEs I L n w) g) (uA B (gWs I L n w) g) ∨ I1 = rPl (wH I (uA A (gEs I L n w) g) (uA B (gWs I L n w) g))) → FX (vR I 0) W → JokR J J1 → ∀ y3 y4, xR (xEx E ex (d + 7)) ex none yX11_layWar cX11_layWar none 2 [some (.ref 347), some (.int w), some (.int (nI g)), y3, y4] [] (SH, wR (wE I1 e1) 1 W, J1, P) (QD (wH I (uA A (gEs I L n w) 4) (uA B (gWs I L n w) 4)) (vR I 0) J P none) := by
  intro c
  induction c with
  | zero =>
    intro g I1 e1 J1 W hgc hI1 hfx hJ y3 y4
    refine r_iload_n dX11_layWar_2 rfl ?_
    refine r_iconst (v := 4) dX11_layWar_3 (by decide) ?_
    refine r_ic_ge 192 dX11_layWar_4 (by decide) (fun c4_ => ?_) (fun c4_ => ?_)
    · exact r_vretq dX11_layWar_192 rfl (by rw [show g = 4 by omega] at hI1; exact ⟨rfl, I1, e1, J1, W, hI1, rfl, hJ, hfx⟩)
    · exact absurd (by rw [show g = 4 by omega]; decide) c4_
  | succ c ih =>
    intro g I1 e1 J1 W hgc hI1 hfx hJ y3 y4
    have hg : g < 4 := by omega
    refine r_iload_n dX11_layWar_2 rfl ?_
    refine r_iconst (v := 4) dX11_layWar_3 (by decide) ?_
    refine r_ic_ge 192 dX11_layWar_4 (by decide) (fun c4_ => ?_) (fun c4_ => ?_)
    · exact absurd c4_ (nI_ge (a := g) (b := 4) hg (by omega))
    · refine r_aload_n dX11_layWar_7 rfl ?_
      have z8 := k_lay3 (E := E) (ex := ex) (I := wH I (uA A (gEs I L n w) g) (uA B (gWs I L n w) g)) (I1 := I1) (W := W) (e := e1) (J := J1) hP (fun j hj => by rw [wH_o _ _ _ (by decide) (by decide)]; exact hp j hj) hI1 (by rw [vR_of (fun a k h1 h2 => wH_o _ _ _ (by omega) (by omega) k)]; exact hfx) (d + 5)
      rw [vR_of (fun a k h1 h2 => wH_o _ _ _ (by omega) (by omega) k) 0] at z8
      refine r_cV0v dX11_layWar_8 vlX11_482 sh_347 (Nat.le_of_ble_eq_true rfl) z8 ?_
      refine r_aload_n dX11_layWar_11 rfl ?_
      refine r_getR dX11_layWar_12 flX11_169 sh_347 (by decide) rfl (pf_347_81 hP) ?_
      refine r_iload_n dX11_layWar_15 rfl ?_
      refine r_iconst (v := 0) dX11_layWar_16 (by decide) ?_
      refine r_iasv dX11_layWar_17 sh_398 (vp_in_nI hg (by omega)) (show _ = wR (wE (rPl (wH I (up (uA A (gEs I L n w) g) g 0) (uA B (gWs I L n w) g))) e1) 1 (vR I 0) from (wR_xo _ _ _ (by decide) _ _).trans (congrArg (fun z => wR z _ _) ((wE_c _ _ _ (fun z => absurd z.1 (by decide))).trans (congrArg (fun z => wE z _) (by rw [rPl_x _ (by decide), nI_clamp (n := g) (by omega), wH_xa _ _ _ hg]))))) ?_
      refine r_aload_n dX11_layWar_18 rfl ?_
      refine r_getR dX11_layWar_19 flX11_172 sh_347 (by decide) rfl (pf_347_82 hP) ?_
      refine r_iload_n dX11_layWar_22 rfl ?_
      refine r_iconst (v := 0) dX11_layWar_23 (by decide) ?_
      refine r_iasv dX11_layWar_24 sh_399 (vp_in_nI hg (by omega)) (show _ = wR (wE (rPl (wH I (up (uA A (gEs I L n w) g) g 0) (up (uA B (gWs I L n w) g) g 0))) e1) 1 (vR I 0) from (wR_xo _ _ _ (by decide) _ _).trans (congrArg (fun z => wR z _ _) ((wE_c _ _ _ (fun z => absurd z.1 (by decide))).trans (congrArg (fun z => wE z _) (by rw [rPl_x _ (by decide), nI_clamp (n := g) (by omega), wH_xb _ _ _ hg]))))) ?_
      refine r_iconst (v := 0) dX11_layWar_25 (by decide) ?_
      refine r_istore_n3 dX11_layWar_26 rfl ?_
      refine l_rwar1 (I := I) hP hv h3 hg d (fun y4 => ?_) 0 (Nat.zero_le _) _
      refine r_aload_n dX11_layWar_151 rfl ?_
      refine r_iconst (v := 1) dX11_layWar_152 (by decide) ?_
      obtain ⟨e9, J9, hx9, hj9⟩ := k_rbridge (E := E) (ex := ex) (I := rPl (wH I (up (uA A (gEs I L n w) g) g (gA (I 385) (rSd I) (I 383) g n)) (up (uA B (gWs I L n w) g) g (gB (I 385) (rSd I) (I 383) g n)))) (V := (gV (vR I 0) (I 385) (rSd I) g n)) (e := e1) (J := J1) hP (b := 1) (by decide) (hv.gv _ _ g n) (hk.gv _ _ g n) (hL.of (fun a h1 h2 => funext (fun k => (rPl_o (by omega) k).trans (wH_o _ _ _ (by omega) (by omega) k)))) h7 (d + 1)
      have hj9 := hJ.tr hj9
      refine r_cV1i dX11_layWar_153 vlX11_443 sh_347 (Nat.le_of_ble_eq_true rfl) hx9 ?_
      refine r_iconst (v := 1) dX11_layWar_156 (by decide) ?_
      refine r_ic_lt 164 dX11_layWar_157 (by decide) (fun c157 => ?_) (fun c157 => ?_)
      · refine r_iconst (v := 0) dX11_layWar_164 (by decide) ?_
        refine r_istore_n3 dX11_layWar_165 rfl ?_
        refine r_aload_n dX11_layWar_166 rfl ?_
        refine r_getR dX11_layWar_167 flX11_169 sh_347 (by decide) rfl (pf_347_81 hP) ?_
        refine r_iload_n dX11_layWar_170 rfl ?_
        refine r_dup2 dX11_layWar_171 rfl rfl ?_
        refine r_ialv dX11_layWar_172 sh_398 (vp_in_nI hg (by omega)) ((wR_o _ _ _ (by decide) _).trans ((wE_o _ _ (by decide) _).trans ((rPl_o (by decide) _).trans ((congrArg (wH I _ _ 398) (nI_clamp (n := g) (by omega))).trans ((wH_a _ _ _ hg).trans (up_s _ _ _)))))) ?_
        refine r_iload_n dX11_layWar_173 rfl ?_
        refine r_iadd dX11_layWar_174 ?_
        refine r_iasv dX11_layWar_175 sh_398 (vp_in_nI hg (by omega)) (show _ = wR (wE (rPl (wH I (up (uA A (gEs I L n w) g) g ((gA (I 385) (rSd I) (I 383) g n) + 0)) (up (uA B (gWs I L n w) g) g (gB (I 385) (rSd I) (I 383) g n)))) e9) 1 (gV (vR I 0) (I 385) (rSd I) g n) from (wR_xo _ _ _ (by decide) _ _).trans (congrArg (fun z => wR z _ _) ((wE_c _ _ _ (fun z => absurd z.1 (by decide))).trans (congrArg (fun z => wE z _) (by rw [rPl_x _ (by decide), nI_clamp (n := g) (by omega), wH_xa _ _ _ hg, up_up]))))) ?_
        refine r_aload_n dX11_layWar_176 rfl ?_
        refine r_getR dX11_layWar_177 flX11_172 sh_347 (by decide) rfl (pf_347_82 hP) ?_
        refine r_iload_n dX11_layWar_180 rfl ?_
        refine r_dup2 dX11_layWar_181 rfl rfl ?_
        refine r_ialv dX11_layWar_182 sh_399 (vp_in_nI hg (by omega)) ((wR_o _ _ _ (by decide) _).trans ((wE_o _ _ (by decide) _).trans ((rPl_o (by decide) _).trans ((congrArg (wH I _ _ 399) (nI_clamp (n := g) (by omega))).trans ((wH_b _ _ _ hg).trans (up_s _ _ _)))))) ?_
        refine r_iload_n dX11_layWar_183 rfl ?_
        refine r_iadd dX11_layWar_184 ?_
        refine r_iasv dX11_layWar_185 sh_399 (vp_in_nI hg (by omega)) (show _ = wR (wE (rPl (wH I (up (uA A (gEs I L n w) g) g ((gA (I 385) (rSd I) (I 383) g n) + 0)) (up (uA B (gWs I L n w) g) g ((gB (I 385) (rSd I) (I 383) g n) + 0)))) e9) 1 (gV (vR I 0) (I 385) (rSd I) g n) from (wR_xo _ _ _ (by decide) _ _).trans (congrArg (fun z => wR z _ _) ((wE_c _ _ _ (fun z => absurd z.1 (by decide))).trans (congrArg (fun z => wE z _) (by rw [rPl_x _ (by decide), nI_clamp (n := g) (by omega), wH_xb _ _ _ hg, up_up]))))) ?_
        refine r_iinc2 (v := 1) dX11_layWar_186 (by decide) rfl ?_
        refine r_goto 2 dX11_layWar_189 (by decide) ?_
        rw [nI_1]; have em : gM (vR I 0) L (I 385) (rSd I) n w g = 0 := by rw [gM, if_pos c157]
        have z := ih (g + 1) (rPl (wH I (uA A (gEs I L n w) (g + 1)) (uA B (gWs I L n w) (g + 1)))) e9 J9 (gV (vR I 0) (I 385) (rSd I) g n) (by omega) (Or.inr rfl) ((FX.rf _).gv _ _ g n) hj9
        rw [uA, uA, gEs, gWs, em] at z; exact z _ _
      · refine r_iload_n dX11_layWar_160 rfl ?_
        refine r_goto 165 dX11_layWar_161 (by decide) ?_
        refine r_istore_n3 dX11_layWar_165 rfl ?_
        refine r_aload_n dX11_layWar_166 rfl ?_
        refine r_getR dX11_layWar_167 flX11_169 sh_347 (by decide) rfl (pf_347_81 hP) ?_
        refine r_iload_n dX11_layWar_170 rfl ?_
        refine r_dup2 dX11_layWar_171 rfl rfl ?_
        refine r_ialv dX11_layWar_172 sh_398 (vp_in_nI hg (by omega)) ((wR_o _ _ _ (by decide) _).trans ((wE_o _ _ (by decide) _).trans ((rPl_o (by decide) _).trans ((congrArg (wH I _ _ 398) (nI_clamp (n := g) (by omega))).trans ((wH_a _ _ _ hg).trans (up_s _ _ _)))))) ?_
        refine r_iload_n dX11_layWar_173 rfl ?_
        refine r_iadd dX11_layWar_174 ?_
        refine r_iasv dX11_layWar_175 sh_398 (vp_in_nI hg (by omega)) (show _ = wR (wE (rPl (wH I (up (uA A (gEs I L n w) g) g ((gA (I 385) (rSd I) (I 383) g n) + w)) (up (uA B (gWs I L n w) g) g (gB (I 385) (rSd I) (I 383) g n)))) e9) 1 (gV (vR I 0) (I 385) (rSd I) g n) from (wR_xo _ _ _ (by decide) _ _).trans (congrArg (fun z => wR z _ _) ((wE_c _ _ _ (fun z => absurd z.1 (by decide))).trans (congrArg (fun z => wE z _) (by rw [rPl_x _ (by decide), nI_clamp (n := g) (by omega), wH_xa _ _ _ hg, up_up]))))) ?_
        refine r_aload_n dX11_layWar_176 rfl ?_
        refine r_getR dX11_layWar_177 flX11_172 sh_347 (by decide) rfl (pf_347_82 hP) ?_
        refine r_iload_n dX11_layWar_180 rfl ?_
        refine r_dup2 dX11_layWar_181 rfl rfl ?_
        refine r_ialv dX11_layWar_182 sh_399 (vp_in_nI hg (by omega)) ((wR_o _ _ _ (by decide) _).trans ((wE_o _ _ (by decide) _).trans ((rPl_o (by decide) _).trans ((congrArg (wH I _ _ 399) (nI_clamp (n := g) (by omega))).trans ((wH_b _ _ _ hg).trans (up_s _ _ _)))))) ?_
        refine r_iload_n dX11_layWar_183 rfl ?_
        refine r_iadd dX11_layWar_184 ?_
        refine r_iasv dX11_layWar_185 sh_399 (vp_in_nI hg (by omega)) (show _ = wR (wE (rPl (wH I (up (uA A (gEs I L n w) g) g ((gA (I 385) (rSd I) (I 383) g n) + w)) (up (uA B (gWs I L n w) g) g ((gB (I 385) (rSd I) (I 383) g n) + w)))) e9) 1 (gV (vR I 0) (I 385) (rSd I) g n) from (wR_xo _ _ _ (by decide) _ _).trans (congrArg (fun z => wR z _ _) ((wE_c _ _ _ (fun z => absurd z.1 (by decide))).trans (congrArg (fun z => wE z _) (by rw [rPl_x _ (by decide), nI_clamp (n := g) (by omega), wH_xb _ _ _ hg, up_up]))))) ?_
        refine r_iinc2 (v := 1) dX11_layWar_186 (by decide) rfl ?_
        refine r_goto 2 dX11_layWar_189 (by decide) ?_
        rw [nI_1]; have em : gM (vR I 0) L (I 385) (rSd I) n w g = w := by rw [gM, if_neg c157]
        have z := ih (g + 1) (rPl (wH I (uA A (gEs I L n w) (g + 1)) (uA B (gWs I L n w) (g + 1)))) e9 J9 (gV (vR I 0) (I 385) (rSd I) g n) (by omega) (Or.inr rfl) ((FX.rf _).gv _ _ g n) hj9
        rw [uA, uA, gEs, gWs, em] at z; exact z _ _
theorem k_layWar {E : xCl} {ex : Bool} {I : Nat → Nat → Int32} {e : Int32} {J : Nat → Nat → Int64} {P : Nat → Nat → Nat} (hP : Pok P) (hp : Pt I) {n : Nat} (hv : Vok (vR I 0) n) (hk : Tok (vR I 0) n) (h3 : ∀ k, vp_in (I 379 k) 6) {L : Nat → (Nat → Int64) → Int64} (hL : LwR I L) (h7 : L7 L) (w : Int32) (d : Nat) : ∃ I1 e' J' W', (I1 = wH I (uA (I 398) (gEs I L n w) 4) (uA (I 399) (gWs I L n w) 4) ∨ I1 = rPl (wH I (uA (I 398) (gEs I L n w) 4) (uA (I 399) (gWs I L n w) 4))) ∧ xEx E ex (d + 8) yX11_layWar [.ref 347, .int w] (SH, wE I e, J, P) none (SH, wR (wE I1 e') 1 W', J', P) ∧ JokR J J' ∧ FX (vR I 0) W' := by
  have key : ∃ r1 S1, xEx E ex (d + 7 + 1) yX11_layWar [.ref 347, .int w] (SH, wE I e, J, P) r1 S1 ∧ QD (wH I (uA (I 398) (gEs I L n w) 4) (uA (I 399) (gWs I L n w) 4)) (vR I 0) J P none r1 S1 := by
    refine x_enterq (d := d + 7) cqX11_layWar [some (.ref 347), some (.int w), none, none, none] rfl (by simp [lg_sl, Value.category]) ?_
    refine r_iconst (v := 0) dX11_layWar_0 (by decide) ?_
    refine r_istore_n2 dX11_layWar_1 rfl ?_
    have z := l_rwar (E := E) (ex := ex) (I := I) (J := J) (A := I 398) (B := I 399) hP hp hv hk h3 hL h7 w d 4 0 I e J (vR I 1) (by omega) (Or.inl (wH_id I).symm) (FX.v1 I) (JokR.rf J) none none
    rw [raw1 hp] at z; exact z
  obtain ⟨r1, S1, h1, h2, I1, e9, J9, W9, hI1, h9, h10, h11⟩ := key
  subst h2; subst h9
  exact ⟨I1, e9, J9, W9, hI1, h1, h10, h11⟩
abbrev rRc (A B : Nat → Int32) (g : Nat) : Prop := ¬ A g < A ((g + 2) % 4) ∧ ¬ B g < B (if g % 2 = 0 then g + 1 else g - 1)
def rRa (A B : Nat → Int32) (wt : Int32) : Nat → Nat → Int32 → Int32
  | 0, _, k => if 0 ≤ wt then -2 else k
  | c + 1, g, k => if rRc A B g then (if k = wt then 10 * (nI g / 2) + (nI g - nI g / 2 * 2) else rRa A B wt c (g + 1) (k + 1)) else rRa A B wt c (g + 1) k
theorem r4i : ∀ g, g < 4 → vp_in (nI g + 2 - (nI g + 2) / 4 * 4) 4 := by simp only [vp_in_iff]; decide
theorem r4c : ∀ g, g < 4 → (nI g + 2 - (nI g + 2) / 4 * 4).toNatClampNeg = (g + 2) % 4 := by decide
theorem r2e : ∀ g, g < 4 → (nI g - nI g / 2 * 2 = 0 ↔ g % 2 = 0) := by decide
theorem r4p : ∀ g, g < 4 → g % 2 = 0 → vp_in (nI g + 1) 4 := by simp only [vp_in_iff]; decide
theorem r4m : ∀ g, g < 4 → ¬ g % 2 = 0 → vp_in (nI g - 1) 4 := by simp only [vp_in_iff]; decide
theorem r4pc : ∀ g, g < 4 → (nI g + 1).toNatClampNeg = g + 1 := by decide
theorem r4mc : ∀ g, g < 4 → ¬ g % 2 = 0 → (nI g - 1).toNatClampNeg = g - 1 := by decide
set_option maxHeartbeats 2000000 in
theorem l_restAt {E : xCl} {ex : Bool} {I : Nat → Nat → Int32} {J : Nat → Nat → Int64} {P : Nat → Nat → Nat} (hP : Pok P) {w wt : Int32} (d : Nat) {Q : Option Value → xS → Prop} : ∀ c g k, g + c = 4 → (K : Q (some (.int (rRa (I 398) (I 399) wt c g k))) (SH, I, J, P)) → xR (xEx E ex d) ex none yX11_restAt cX11_restAt (some .int) 10 [some (.ref 347), some (.int w), some (.int wt), some (.int k), some (.int (nI g))] [] (SH, I, J, P) Q := by
  intro c
  induction c with
  | zero =>
    intro g k hgc K
    refine r_iload dX11_restAt_10 rfl ?_
    refine r_iconst (v := 4) dX11_restAt_12 (by decide) ?_
    refine r_ic_ge 100 dX11_restAt_13 (by decide) (fun c13 => ?_) (fun c13 => ?_)
    · refine r_iload_n dX11_restAt_100 rfl ?_
      refine r_if_ge 108 dX11_restAt_101 (by decide) (fun c101 => ?_) (fun c101 => ?_)
      · refine r_bipush (v := (-2)) dX11_restAt_108 (by decide) ?_
        exact r_iretq dX11_restAt_110 rfl rfl (by rw [rRa, if_pos c101] at K; exact K)
      · refine r_iload_n dX11_restAt_104 rfl ?_
        refine r_goto 110 dX11_restAt_105 (by decide) ?_
        exact r_iretq dX11_restAt_110 rfl rfl (by rw [rRa, if_neg c101] at K; exact K)
    · exact absurd (by rw [show g = 4 by omega]; decide) c13
  | succ c ih =>
    intro g k hgc K
    have hg : g < 4 := by omega
    refine r_iload dX11_restAt_10 rfl ?_
    refine r_iconst (v := 4) dX11_restAt_12 (by decide) ?_
    refine r_ic_ge 100 dX11_restAt_13 (by decide) (fun c13 => ?_) (fun c13 => ?_)
    · exact absurd c13 (nI_ge (a := g) (b := 4) hg (by omega))
    · refine r_aload_n dX11_restAt_16 rfl ?_
      refine r_getR dX11_restAt_17 flX11_169 sh_347 (by decide) rfl (pf_347_81 hP) ?_
      refine r_iload dX11_restAt_20 rfl ?_
      refine r_ialv dX11_restAt_22 sh_398 (vp_in_nI hg (by omega)) (congrArg (I 398) (nI_clamp (n := g) (by omega))) ?_
      refine r_aload_n dX11_restAt_23 rfl ?_
      refine r_getR dX11_restAt_24 flX11_169 sh_347 (by decide) rfl (pf_347_81 hP) ?_
      refine r_iload dX11_restAt_27 rfl ?_
      refine r_iconst (v := 2) dX11_restAt_29 (by decide) ?_
      refine r_iadd dX11_restAt_30 ?_
      refine r_iconst (v := 4) dX11_restAt_31 (by decide) ?_
      refine r_irem dX11_restAt_32 (by decide) ?_
      refine r_ialv dX11_restAt_33 sh_398 (r4i g hg) (congrArg (I 398) (r4c g hg)) ?_
      refine r_ic_lt 94 dX11_restAt_34 (by decide) (fun c34 => ?_) (fun c34 => ?_)
      · refine r_iinc4 (v := 1) dX11_restAt_94 (by decide) rfl ?_
        refine r_goto 10 dX11_restAt_97 (by decide) ?_
        rw [rRa, if_neg (fun z => z.1 c34)]  at K; rw [nI_1]; exact ih (g + 1) _ (by omega) K
      · refine r_aload_n dX11_restAt_37 rfl ?_
        refine r_getR dX11_restAt_38 flX11_172 sh_347 (by decide) rfl (pf_347_82 hP) ?_
        refine r_iload dX11_restAt_41 rfl ?_
        refine r_ialv dX11_restAt_43 sh_399 (vp_in_nI hg (by omega)) (congrArg (I 399) (nI_clamp (n := g) (by omega))) ?_
        refine r_aload_n dX11_restAt_44 rfl ?_
        refine r_getR dX11_restAt_45 flX11_172 sh_347 (by decide) rfl (pf_347_82 hP) ?_
        refine r_iload dX11_restAt_48 rfl ?_
        refine r_iconst (v := 2) dX11_restAt_50 (by decide) ?_
        refine r_irem dX11_restAt_51 (by decide) ?_
        refine r_if_ne 62 dX11_restAt_52 (by decide) (fun c52 => ?_) (fun c52 => ?_)
        · refine r_iload dX11_restAt_62 rfl ?_
          refine r_iconst (v := 1) dX11_restAt_64 (by decide) ?_
          refine r_isub dX11_restAt_65 ?_
          refine r_ialv dX11_restAt_66 sh_399 (r4m g hg (fun z => c52 ((r2e g hg).mpr z))) (congrArg (I 399) ((r4mc g hg (fun z => c52 ((r2e g hg).mpr z))).trans (show g - 1 = (if g % 2 = 0 then g + 1 else g - 1) from (if_neg (fun z => c52 ((r2e g hg).mpr z))).symm))) ?_
          refine r_ic_ge 73 dX11_restAt_67 (by decide) (fun c67 => ?_) (fun c67 => ?_)
          · refine r_iload_n dX11_restAt_73 rfl ?_
            refine r_iload_n dX11_restAt_74 rfl ?_
            refine r_ic_ne 91 dX11_restAt_75 (by decide) (fun c75 => ?_) (fun c75 => ?_)
            · refine r_iinc3 (v := 1) dX11_restAt_91 (by decide) rfl ?_
              refine r_iinc4 (v := 1) dX11_restAt_94 (by decide) rfl ?_
              refine r_goto 10 dX11_restAt_97 (by decide) ?_
              rw [rRa, if_pos (show rRc (I 398) (I 399) g from ⟨c34, Int32.not_lt.mpr c67⟩), if_neg c75]  at K; rw [nI_1]; exact ih (g + 1) _ (by omega) K
            · refine r_bipush (v := 10) dX11_restAt_78 (by decide) ?_
              refine r_iload dX11_restAt_80 rfl ?_
              refine r_iconst (v := 2) dX11_restAt_82 (by decide) ?_
              refine r_idiv dX11_restAt_83 (by decide) ?_
              refine r_imul dX11_restAt_84 ?_
              refine r_iload dX11_restAt_85 rfl ?_
              refine r_iconst (v := 2) dX11_restAt_87 (by decide) ?_
              refine r_irem dX11_restAt_88 (by decide) ?_
              refine r_iadd dX11_restAt_89 ?_
              exact r_iretq dX11_restAt_90 rfl rfl (by rw [rRa, if_pos (show rRc (I 398) (I 399) g from ⟨c34, Int32.not_lt.mpr c67⟩), if_pos c75] at K; exact K)
          · refine r_goto 94 dX11_restAt_70 (by decide) ?_
            refine r_iinc4 (v := 1) dX11_restAt_94 (by decide) rfl ?_
            refine r_goto 10 dX11_restAt_97 (by decide) ?_
            rw [rRa, if_neg (fun z => c67 (Int32.not_lt.mp z.2))]  at K; rw [nI_1]; exact ih (g + 1) _ (by omega) K
        · refine r_iload dX11_restAt_55 rfl ?_
          refine r_iconst (v := 1) dX11_restAt_57 (by decide) ?_
          refine r_iadd dX11_restAt_58 ?_
          refine r_goto 66 dX11_restAt_59 (by decide) ?_
          refine r_ialv dX11_restAt_66 sh_399 (r4p g hg ((r2e g hg).mp c52)) (congrArg (I 399) ((r4pc g hg).trans (show g + 1 = (if g % 2 = 0 then g + 1 else g - 1) from (if_pos ((r2e g hg).mp c52)).symm))) ?_
          refine r_ic_ge 73 dX11_restAt_67 (by decide) (fun c67 => ?_) (fun c67 => ?_)
          · refine r_iload_n dX11_restAt_73 rfl ?_
            refine r_iload_n dX11_restAt_74 rfl ?_
            refine r_ic_ne 91 dX11_restAt_75 (by decide) (fun c75 => ?_) (fun c75 => ?_)
            · refine r_iinc3 (v := 1) dX11_restAt_91 (by decide) rfl ?_
              refine r_iinc4 (v := 1) dX11_restAt_94 (by decide) rfl ?_
              refine r_goto 10 dX11_restAt_97 (by decide) ?_
              rw [rRa, if_pos (show rRc (I 398) (I 399) g from ⟨c34, Int32.not_lt.mpr c67⟩), if_neg c75]  at K; rw [nI_1]; exact ih (g + 1) _ (by omega) K
            · refine r_bipush (v := 10) dX11_restAt_78 (by decide) ?_
              refine r_iload dX11_restAt_80 rfl ?_
              refine r_iconst (v := 2) dX11_restAt_82 (by decide) ?_
              refine r_idiv dX11_restAt_83 (by decide) ?_
              refine r_imul dX11_restAt_84 ?_
              refine r_iload dX11_restAt_85 rfl ?_
              refine r_iconst (v := 2) dX11_restAt_87 (by decide) ?_
              refine r_irem dX11_restAt_88 (by decide) ?_
              refine r_iadd dX11_restAt_89 ?_
              exact r_iretq dX11_restAt_90 rfl rfl (by rw [rRa, if_pos (show rRc (I 398) (I 399) g from ⟨c34, Int32.not_lt.mpr c67⟩), if_pos c75] at K; exact K)
          · refine r_goto 94 dX11_restAt_70 (by decide) ?_
            refine r_iinc4 (v := 1) dX11_restAt_94 (by decide) rfl ?_
            refine r_goto 10 dX11_restAt_97 (by decide) ?_
            rw [rRa, if_neg (fun z => c67 (Int32.not_lt.mp z.2))]  at K; rw [nI_1]; exact ih (g + 1) _ (by omega) K
theorem rRa_eq {A B A' B' : Nat → Int32} (hA : ∀ k, k < 4 → A k = A' k) (hB : ∀ k, k < 4 → B k = B' k) (wt : Int32) : ∀ c g k, g + c = 4 → rRa A B wt c g k = rRa A' B' wt c g k
  | 0, _, _, _ => rfl
  | c + 1, g, k, h => by
    have h2 : ((if g % 2 = 0 then g + 1 else g - 1) : Nat) < 4 := by split <;> omega
    have e : rRc A B g ↔ rRc A' B' g := by unfold rRc; rw [hA g (by omega), hA _ (Nat.mod_lt _ (by decide)), hB g (by omega), hB _ h2]
    rw [rRa, rRa, rRa_eq hA hB wt c (g + 1) (k + 1) (by omega), rRa_eq hA hB wt c (g + 1) k (by omega)]
    by_cases q : rRc A B g
    · rw [if_pos q, if_pos (e.mp q)]
    · rw [if_neg q, if_neg (fun z => q (e.mpr z))]
set_option maxHeartbeats 2000000 in
theorem k_restAt {E : xCl} {ex : Bool} {I : Nat → Nat → Int32} {e : Int32} {J : Nat → Nat → Int64} {P : Nat → Nat → Nat} (hP : Pok P) (hp : Pt I) {n : Nat} (hv : Vok (vR I 0) n) (hk : Tok (vR I 0) n) (h3 : ∀ k, vp_in (I 379 k) 6) {L : Nat → (Nat → Int64) → Int64} (hL : LwR I L) (h7 : L7 L) (w : Int32) (wt : Int32) (d : Nat) : ∃ I1 e' J' W', (I1 = wH I (uA (I 398) (gEs I L n w) 4) (uA (I 399) (gWs I L n w) 4) ∨ I1 = rPl (wH I (uA (I 398) (gEs I L n w) 4) (uA (I 399) (gWs I L n w) 4))) ∧ xEx E ex (d + 9) yX11_restAt [.ref 347, .int w, .int wt] (SH, wE I e, J, P) (some (.int (rRa (gEs I L n w) (gWs I L n w) wt 4 0 0))) (SH, wR (wE I1 e') 1 W', J', P) ∧ JokR J J' ∧ FX (vR I 0) W' := by
  have key : ∃ r1 S1, xEx E ex (d + 8 + 1) yX11_restAt [.ref 347, .int w, .int wt] (SH, wE I e, J, P) r1 S1 ∧ QD (wH I (uA (I 398) (gEs I L n w) 4) (uA (I 399) (gWs I L n w) 4)) (vR I 0) J P (some (.int (rRa (gEs I L n w) (gWs I L n w) wt 4 0 0))) r1 S1 := by
    refine x_enterq (d := d + 8) cqX11_restAt [some (.ref 347), some (.int w), some (.int wt), none, none] rfl (by simp [lg_sl, Value.category]) ?_
    refine r_aload_n dX11_restAt_0 rfl ?_
    refine r_iload_n dX11_restAt_1 rfl ?_
    obtain ⟨I1, e2, J2, W2, hI1, hx2, hj2, hf2⟩ := k_layWar (E := E) (ex := ex) (I := I) (e := e) (J := J) hP hp hv hk h3 hL h7 w d
    refine r_cV1v dX11_restAt_2 vlX11_531 sh_347 (Nat.le_of_ble_eq_true rfl) hx2 ?_
    refine r_iconst (v := 0) dX11_restAt_5 (by decide) ?_
    refine r_istore_n3 dX11_restAt_6 rfl ?_
    refine r_iconst (v := 0) dX11_restAt_7 (by decide) ?_
    refine r_istore4 dX11_restAt_8 rfl ?_
    have hA : ∀ k, k < 4 → wR (wE I1 e2) 1 W2 398 k = gEs I L n w k := fun k hk => by
      rw [wR_o _ _ _ (by decide), wE_o _ _ (by decide)]
      rcases hI1 with rfl | rfl
      · rw [wH_a _ _ _ hk]; exact uA_v _ _ 4 hk
      · rw [rPl_o (by decide), wH_a _ _ _ hk]; exact uA_v _ _ 4 hk
    have hB : ∀ k, k < 4 → wR (wE I1 e2) 1 W2 399 k = gWs I L n w k := fun k hk => by
      rw [wR_o _ _ _ (by decide), wE_o _ _ (by decide)]
      rcases hI1 with rfl | rfl
      · rw [wH_b _ _ _ hk]; exact uA_v _ _ 4 hk
      · rw [rPl_o (by decide), wH_b _ _ _ hk]; exact uA_v _ _ 4 hk
    refine l_restAt hP (d + 8) 4 0 0 (by omega) ?_
    rw [rRa_eq hA hB wt 4 0 0 (by omega)]
    exact ⟨rfl, I1, e2, J2, W2, hI1, rfl, hj2, hf2⟩
  obtain ⟨r1, S1, h1, h2, I1, e9, J9, W9, hI1, h9, h10, h11⟩ := key
  subst h2; subst h9
  exact ⟨I1, e9, J9, W9, hI1, h1, h10, h11⟩
theorem k_rrests {E : xCl} {ex : Bool} {I I0 : Nat → Nat → Int32} {e : Int32} {J : Nat → Nat → Int64} {P : Nat → Nat → Nat} (hP : Pok P) (hI : xu I 347 2 0 = I0) (hp : Pt I0) {n : Nat} (hv : Vok (vR I0 0) n) (hk : Tok (vR I0 0) n) (h3 : ∀ k, vp_in (I0 379 k) 6) {L : Nat → (Nat → Int64) → Int64} (hL : LwR I0 L) (h7 : L7 L) {w : Int32} (h : ¬ w < 0 ∧ ¬ 9999 < w) (d : Nat) : ∃ I1 e' J' W', (I1 = wH I0 (uA (I0 398) (gEs I0 L n w) 4) (uA (I0 399) (gWs I0 L n w) 4) ∨ I1 = rPl (wH I0 (uA (I0 398) (gEs I0 L n w) 4) (uA (I0 399) (gWs I0 L n w) 4))) ∧ xEx E ex (d + 10) yX11_rests [.ref 347, .int w] (SH, wE I e, J, P) (some (.int (rRa (gEs I0 L n w) (gWs I0 L n w) (-1) 4 0 0))) (SH, wR (wE I1 e') 1 W', J', P) ∧ JokR J J' ∧ FX (vR I0 0) W' := by
  have key : ∃ r1 S1, xEx E ex (d + 9 + 1) yX11_rests [.ref 347, .int w] (SH, wE I e, J, P) r1 S1 ∧ QD (wH I0 (uA (I0 398) (gEs I0 L n w) 4) (uA (I0 399) (gWs I0 L n w) 4)) (vR I0 0) J P (some (.int (rRa (gEs I0 L n w) (gWs I0 L n w) (-1) 4 0 0))) r1 S1 := by
    refine x_enterq (d := d + 9) cqX11_rests [some (.ref 347), some (.int w)] rfl (by simp [lg_sl, Value.category]) ?_
    refine r_aload_n dX11_rests_0 rfl ?_
    refine r_iconst (v := 0) dX11_rests_1 (by decide) ?_
    refine r_putIv dX11_rests_2 flX11_193 ⟨_, _, _, rfl, Or.inl rfl⟩ sh_347 (by decide) rfl rfl rfl ((wE_c _ _ _ (by decide)).trans (congrArg (fun z => wE z _) hI)) ?_
    refine r_iload_n dX11_rests_5 rfl ?_
    refine r_iconst (v := 0) dX11_rests_6 (by decide) ?_
    refine r_sipush (v := 9999) dX11_rests_7 (by decide) ?_
    refine r_cS3i dX11_rests_10 slX11_238 (Nat.le_of_ble_eq_true rfl) (k_isIn_t h (d + 8)) ?_
    refine r_if_eq 25 dX11_rests_13 (by decide) (fun c13 => ?_) (fun c13 => ?_)
    · exact absurd c13 (by decide)
    · refine r_aload_n dX11_rests_16 rfl ?_
      refine r_iload_n dX11_rests_17 rfl ?_
      refine r_iconst (v := (-1)) dX11_rests_18 (by decide) ?_
      obtain ⟨I1, e2, J2, W2, hI1, hx2, hj2, hf2⟩ := k_restAt (E := E) (ex := ex) (I := I0) (e := e) (J := J) hP hp hv hk h3 hL h7 w (-1) d
      refine r_cV2i dX11_rests_19 vlX11_534 sh_347 (Nat.le_of_ble_eq_true rfl) hx2 ?_
      refine r_goto 26 dX11_rests_22 (by decide) ?_
      exact r_iretq dX11_rests_26 rfl rfl ⟨rfl, I1, e2, J2, W2, hI1, rfl, hj2, hf2⟩
  obtain ⟨r1, S1, h1, h2, I1, e9, J9, W9, hI1, h9, h10, h11⟩ := key
  subst h2; subst h9
  exact ⟨I1, e9, J9, W9, hI1, h1, h10, h11⟩
theorem k_rrest {E : xCl} {ex : Bool} {I I0 : Nat → Nat → Int32} {e : Int32} {J : Nat → Nat → Int64} {P : Nat → Nat → Nat} (hP : Pok P) (hI : xu I 347 2 0 = I0) (hp : Pt I0) {n : Nat} (hv : Vok (vR I0 0) n) (hk : Tok (vR I0 0) n) (h3 : ∀ k, vp_in (I0 379 k) 6) {L : Nat → (Nat → Int64) → Int64} (hL : LwR I0 L) (h7 : L7 L) {w : Int32} (h : ¬ w < 0 ∧ ¬ 9999 < w) {k : Int32} (hk0 : ¬ k < 0) (d : Nat) : ∃ I1 e' J' W', (I1 = wH I0 (uA (I0 398) (gEs I0 L n w) 4) (uA (I0 399) (gWs I0 L n w) 4) ∨ I1 = rPl (wH I0 (uA (I0 398) (gEs I0 L n w) 4) (uA (I0 399) (gWs I0 L n w) 4))) ∧ xEx E ex (d + 10) yX11_rest [.ref 347, .int w, .int k] (SH, wE I e, J, P) (some (.int (rRa (gEs I0 L n w) (gWs I0 L n w) k 4 0 0))) (SH, wR (wE I1 e') 1 W', J', P) ∧ JokR J J' ∧ FX (vR I0 0) W' := by
  have key : ∃ r1 S1, xEx E ex (d + 9 + 1) yX11_rest [.ref 347, .int w, .int k] (SH, wE I e, J, P) r1 S1 ∧ QD (wH I0 (uA (I0 398) (gEs I0 L n w) 4) (uA (I0 399) (gWs I0 L n w) 4)) (vR I0 0) J P (some (.int (rRa (gEs I0 L n w) (gWs I0 L n w) k 4 0 0))) r1 S1 := by
    refine x_enterq (d := d + 9) cqX11_rest [some (.ref 347), some (.int w), some (.int k)] rfl (by simp [lg_sl, Value.category]) ?_
    refine r_aload_n dX11_rest_0 rfl ?_
    refine r_iconst (v := 0) dX11_rest_1 (by decide) ?_
    refine r_putIv dX11_rest_2 flX11_193 ⟨_, _, _, rfl, Or.inl rfl⟩ sh_347 (by decide) rfl rfl rfl ((wE_c _ _ _ (by decide)).trans (congrArg (fun z => wE z _) hI)) ?_
    refine r_iload_n dX11_rest_5 rfl ?_
    refine r_iconst (v := 0) dX11_rest_6 (by decide) ?_
    refine r_sipush (v := 9999) dX11_rest_7 (by decide) ?_
    refine r_cS3i dX11_rest_10 slX11_238 (Nat.le_of_ble_eq_true rfl) (k_isIn_t h (d + 8)) ?_
    refine r_if_eq 29 dX11_rest_13 (by decide) (fun c13 => ?_) (fun c13 => ?_)
    · exact absurd c13 (by decide)
    · refine r_iload_n dX11_rest_16 rfl ?_
      refine r_if_lt 29 dX11_rest_17 (by decide) (fun c17 => ?_) (fun c17 => ?_)
      · exact absurd c17 hk0
      · refine r_aload_n dX11_rest_20 rfl ?_
        refine r_iload_n dX11_rest_21 rfl ?_
        refine r_iload_n dX11_rest_22 rfl ?_
        obtain ⟨I1, e2, J2, W2, hI1, hx2, hj2, hf2⟩ := k_restAt (E := E) (ex := ex) (I := I0) (e := e) (J := J) hP hp hv hk h3 hL h7 w k d
        refine r_cV2i dX11_rest_23 vlX11_534 sh_347 (Nat.le_of_ble_eq_true rfl) hx2 ?_
        refine r_goto 30 dX11_rest_26 (by decide) ?_
        exact r_iretq dX11_rest_30 rfl rfl ⟨rfl, I1, e2, J2, W2, hI1, rfl, hj2, hf2⟩
  obtain ⟨r1, S1, h1, h2, I1, e9, J9, W9, hI1, h9, h10, h11⟩ := key
  subst h2; subst h9
  exact ⟨I1, e9, J9, W9, hI1, h1, h10, h11⟩
set_option maxHeartbeats 1000000 in
theorem k_rrests_n {E : xCl} {ex : Bool} {I I0 : Nat → Nat → Int32} {e : Int32} {J : Nat → Nat → Int64} {P : Nat → Nat → Nat} (hP : Pok P) (hI : xu I 347 2 0 = I0) {w : Int32} (h : ¬ (¬ w < 0 ∧ ¬ 9999 < w)) (d : Nat) : xEx E ex (d + 2) yX11_rests [.ref 347, .int w] (SH, wE I e, J, P) (some (.int (-1))) (SH, wE I0 e, J, P) := by
  refine x_enter cqX11_rests [some (.ref 347), some (.int w)] rfl (by simp [lg_sl, Value.category]) ?_
  refine r_aload_n dX11_rests_0 rfl ?_
  refine r_iconst (v := 0) dX11_rests_1 (by decide) ?_
  refine r_putIv dX11_rests_2 flX11_193 ⟨_, _, _, rfl, Or.inl rfl⟩ sh_347 (by decide) rfl rfl rfl ((wE_c _ _ _ (by decide)).trans (congrArg (fun z => wE z _) hI)) ?_
  refine r_iload_n dX11_rests_5 rfl ?_
  refine r_iconst (v := 0) dX11_rests_6 (by decide) ?_
  refine r_sipush (v := 9999) dX11_rests_7 (by decide) ?_
  refine r_cS3i dX11_rests_10 slX11_238 (Nat.le_of_ble_eq_true rfl) (k_isIn_f h d) ?_
  refine r_if_eq 25 dX11_rests_13 (by decide) (fun c13 => ?_) (fun c13 => ?_)
  · refine r_iconst (v := (-1)) dX11_rests_25 (by decide) ?_
    exact r_iret dX11_rests_26 rfl rfl rfl rfl
  · exact absurd c13 (by decide)
set_option maxHeartbeats 1000000 in
theorem k_rrest_n {E : xCl} {ex : Bool} {I I0 : Nat → Nat → Int32} {e : Int32} {J : Nat → Nat → Int64} {P : Nat → Nat → Nat} (hP : Pok P) (hI : xu I 347 2 0 = I0) {w k : Int32} (h : ¬ ((¬ w < 0 ∧ ¬ 9999 < w) ∧ ¬ k < 0)) (d : Nat) : xEx E ex (d + 2) yX11_rest [.ref 347, .int w, .int k] (SH, wE I e, J, P) (some (.int (-1))) (SH, wE I0 e, J, P) := by
  refine x_enter cqX11_rest [some (.ref 347), some (.int w), some (.int k)] rfl (by simp [lg_sl, Value.category]) ?_
  refine r_aload_n dX11_rest_0 rfl ?_
  refine r_iconst (v := 0) dX11_rest_1 (by decide) ?_
  refine r_putIv dX11_rest_2 flX11_193 ⟨_, _, _, rfl, Or.inl rfl⟩ sh_347 (by decide) rfl rfl rfl ((wE_c _ _ _ (by decide)).trans (congrArg (fun z => wE z _) hI)) ?_
  refine r_iload_n dX11_rest_5 rfl ?_
  refine r_iconst (v := 0) dX11_rest_6 (by decide) ?_
  refine r_sipush (v := 9999) dX11_rest_7 (by decide) ?_
  by_cases h10 : ¬ w < 0 ∧ ¬ 9999 < w
  · refine r_cS3i dX11_rest_10 slX11_238 (Nat.le_of_ble_eq_true rfl) (k_isIn_t h10 d) ?_
    refine r_if_eq 29 dX11_rest_13 (by decide) (fun c13 => ?_) (fun c13 => ?_)
    · exact absurd c13 (by decide)
    · refine r_iload_n dX11_rest_16 rfl ?_
      refine r_if_lt 29 dX11_rest_17 (by decide) (fun c17 => ?_) (fun c17 => ?_)
      · refine r_iconst (v := (-1)) dX11_rest_29 (by decide) ?_
        exact r_iret dX11_rest_30 rfl rfl rfl rfl
      · exact absurd ⟨h10, c17⟩ h
  · refine r_cS3i dX11_rest_10 slX11_238 (Nat.le_of_ble_eq_true rfl) (k_isIn_f h10 d) ?_
    refine r_if_eq 29 dX11_rest_13 (by decide) (fun c13 => ?_) (fun c13 => ?_)
    · refine r_iconst (v := (-1)) dX11_rest_29 (by decide) ?_
      exact r_iret dX11_rest_30 rfl rfl rfl rfl
    · exact absurd c13 (by decide)
