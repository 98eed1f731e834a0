/-! what is saved before an act -/
theorem vSm.rf (V : Nat → Nat → Int32) : vSm V V := ⟨fun _ _ _ _ _ => rfl, fun _ _ _ => rfl⟩
theorem bl_12 {f : Nat} (h1 : 3 ≤ f) (h2 : f ≤ 10) : bl f = 12 := by unfold bl; rw [if_neg (by omega), if_neg (by omega)]
theorem vSm.a {X V : Nat → Nat → Int32} (e : vSm X V) {f k : Nat} (h1 : 3 ≤ f) (h2 : f ≤ 10) (hk : k < 12) : X f k = V f k := e.1 f k (by omega) (by omega) (by rw [bl_12 h1 h2]; exact hk)
theorem vSm.E {X V : Nat → Nat → Int32} (e : vSm X V) {np n m : Nat} (hnp : np ≤ 6) (hn : n ≤ 12) (hm : m ≤ 8) : vE np n m X V := by
  refine ⟨fun k hk => ⟨e.1 1 k (by omega) (by omega) (by show k < 6; omega), e.1 2 k (by omega) (by omega) (by show k < 6; omega)⟩, fun k hk => ?_, fun k hk => e.1 11 k (by omega) (by omega) (by show k < 8; omega), e.2 13 (by omega) (by omega), e.2 14 (by omega) (by omega), e.2 15 (by omega) (by omega)⟩
  have hk2 : k < 12 := by omega
  exact ⟨e.a (by omega) (by omega) hk2, e.a (by omega) (by omega) hk2, e.a (by omega) (by omega) hk2, e.a (by omega) (by omega) hk2, e.a (by omega) (by omega) hk2, e.a (by omega) (by omega) hk2, e.a (by omega) (by omega) hk2, e.a (by omega) (by omega) hk2, by rw [e.2 12 (by omega) (by omega)]⟩
theorem vG.e {np q n : Nat} {V X VF : Nat → Nat → Int32} (h : vG np q n V VF) (e : vSm X V) (h3 : ∀ k, vp_in (X 3 k) 6) (h4 : ∀ k, vp_in (X 4 k) 6) : vG np q n X VF := by
  obtain ⟨⟨v1, v2, v3, v4⟩, g2, g3, g4, g5, g6, g7, g8, g9⟩ := h
  refine ⟨⟨v1, (e.2 13 (by omega) (by omega)).trans v2, h3, h4⟩, g2, fun j hj => ?_, fun j hj => ?_, fun j hj z => ?_, fun j hj => ?_, ?_, ?_, ?_⟩
  · rw [e.a (f := 10) (by omega) (by omega) (by omega)]
    rcases g3 j hj with z | ⟨y, z1, z2, z3, z4⟩
    · exact Or.inl z
    · exact Or.inr ⟨y, z1, z2, z3, by rw [e.a (f := 10) (by omega) (by omega) (by omega)]; exact z4⟩
  · rw [e.a (f := 3) (by omega) (by omega) (by omega), e.a (f := 4) (by omega) (by omega) (by omega)]; exact g4 j hj
  · rw [e.a (f := 9) (by omega) (by omega) (by omega)] at z
    rw [e.a (f := 5) (by omega) (by omega) (by omega), e.a (f := 6) (by omega) (by omega) (by omega)]; exact g5 j hj z
  · rw [e.a (f := 3) (by omega) (by omega) (by omega), e.a (f := 4) (by omega) (by omega) (by omega), e.a (f := 7) (by omega) (by omega) (by omega), e.a (f := 8) (by omega) (by omega) (by omega)]; exact g6 j hj
  · rw [e.2 12 (by omega) (by omega)]; exact g7
  · rw [e.2 14 (by omega) (by omega)]; exact g8
  · rw [e.2 15 (by omega) (by omega)]; exact g9
/-- now, laid anew on both sides -/
theorem zN.mk' {np q n m : Nat} {I2 C V W : Nat → Nat → Int32} (e : I2 = wR C 0 W) (hp : Pt C) (hv : vSm (vB I2 56) V) (h3 : ∀ k, vp_in (vB I2 56 3 k) 6) (h4 : ∀ k, vp_in (vB I2 56 4 k) 6) (hg : vG np q n V (vB I2 44)) (hnp : np ≤ 6) (hm : m ≤ 8) (hE : vE np n m V W) (hw : ∀ k, k < 12 → vp_in (W 3 k) 6 ∧ vp_in (W 4 k) 6 ∧ (W 10 k < 0 ∨ vp_in (W 10 k) 12) ∧ in0 (W 6 k) 0 198) (hc : ∀ k, vp_in (C 379 k) 6 ∧ vp_in (C 380 k) 6) : zN np q n m I2 := by
  have hn := hg.1.1
  refine ⟨hg.e hv h3 h4, ?_, fun k => ?_, fun k => ?_, fun k hk => ⟨?_, ?_⟩, ?_⟩
  · rw [show vR I2 0 = vR (wR C 0 W) 0 by rw [e]]
    exact ((hv.E hnp hn hm).tr hE).tr ((vR_w0 C W).sy.le hnp hn hm)
  · rw [e]
    by_cases hk : k < 12
    · rw [w0_i C W (a := 379) (by decide) hk]; exact (hw k hk).1
    · rw [w0_o C W (a := 379) (fun z => hk z.2)]; exact (hc k).1
  · rw [e]
    by_cases hk : k < 12
    · rw [w0_i C W (a := 380) (by decide) hk]; exact (hw k hk).2.1
    · rw [w0_o C W (a := 380) (fun z => hk z.2)]; exact (hc k).2
  · rw [e, w0_i C W (a := 386) (by decide) hk]; exact (hw k hk).2.2.1
  · rw [e, w0_i C W (a := 384) (by decide) hk]; exact (hw k hk).2.2.2
  · rw [e]; exact Pt_w0 hp W
theorem pT1_r (I : Nat → Nat → Int32) (row i : Nat) (V : Nat → Nat → Int32) : ∀ p, p ≤ 6 → (∀ k, k < p → pT1 I row i V p row (i + k) = V 1 k ∧ pT1 I row i V p row (i + 6 + k) = V 2 k) ∧ ∀ j, (j < i ∨ i + 12 ≤ j) → pT1 I row i V p row j = I row j
  | 0, _ => ⟨fun k hk => absurd hk (by omega), fun _ _ => rfl⟩
  | p + 1, hp => by
    obtain ⟨ih, io⟩ := pT1_r I row i V p (by omega)
    refine ⟨fun k hk => ?_, fun j hj => ?_⟩
    · rw [pT1]
      by_cases e : k = p
      · subst e
        exact ⟨(xu_ne (by omega)).trans (xu_s _ _ _ _), xu_s _ _ _ _⟩
      · have := ih k (by omega)
        exact ⟨(xu_ne (by omega)).trans ((xu_ne (by omega)).trans this.1), (xu_ne (by omega)).trans ((xu_ne (by omega)).trans this.2)⟩
    · rw [pT1]
      exact (xu_ne (by omega)).trans ((xu_ne (by omega)).trans (io j hj))
theorem pT2_r (I : Nat → Nat → Int32) (row i : Nat) (V : Nat → Nat → Int32) : ∀ p, p ≤ 12 → (∀ k, k < p → pT2 I row i V p row (i + 12 + k) = V 9 k ∧ pT2 I row i V p row (i + 24 + k) = V 10 k) ∧ ∀ j, (j < i + 12 ∨ i + 36 ≤ j) → pT2 I row i V p row j = I row j
  | 0, _ => ⟨fun k hk => absurd hk (by omega), fun _ _ => rfl⟩
  | p + 1, hp => by
    obtain ⟨ih, io⟩ := pT2_r I row i V p (by omega)
    refine ⟨fun k hk => ?_, fun j hj => ?_⟩
    · rw [pT2]
      by_cases e : k = p
      · subst e
        exact ⟨(xu_ne (by omega)).trans (xu_s _ _ _ _), xu_s _ _ _ _⟩
      · have := ih k (by omega)
        exact ⟨(xu_ne (by omega)).trans ((xu_ne (by omega)).trans this.1), (xu_ne (by omega)).trans ((xu_ne (by omega)).trans this.2)⟩
    · rw [pT2]
      exact (xu_ne (by omega)).trans ((xu_ne (by omega)).trans (io j hj))
theorem pPut_r (I : Nat → Nat → Int32) (row i : Nat) (V : Nat → Nat → Int32) : (∀ k, k < 6 → pPut I row i V row (i + k) = V 1 k ∧ pPut I row i V row (i + 6 + k) = V 2 k) ∧ (∀ k, k < 12 → pPut I row i V row (i + 12 + k) = V 9 k ∧ pPut I row i V row (i + 24 + k) = V 10 k) ∧ pPut I row i V row (i + 36) = V 13 0 ∧ ∀ j, (j < i ∨ i + 37 ≤ j) → pPut I row i V row j = I row j := by
  obtain ⟨p1, p2⟩ := pT1_r I row i V 6 (by omega)
  obtain ⟨p3, p4⟩ := pT2_r (pT1 I row i V 6) row i V 12 (by omega)
  unfold pPut
  refine ⟨fun k hk => ⟨?_, ?_⟩, fun k hk => ⟨?_, ?_⟩, xu_s _ _ _ _, fun j hj => ?_⟩
  · exact (xu_ne (by omega)).trans ((p4 _ (by omega)).trans (p1 k hk).1)
  · exact (xu_ne (by omega)).trans ((p4 _ (by omega)).trans (p1 k hk).2)
  · exact (xu_ne (by omega)).trans (p3 k hk).1
  · exact (xu_ne (by omega)).trans (p3 k hk).2
  · exact (xu_ne (by omega)).trans ((p4 _ (by omega)).trans (p2 j (by omega)))
theorem rSh_i (I : Nat → Nat → Int32) : ∀ q k, rSh I q 400 k = if k < q then I 400 (k + 37) else I 400 k
  | 0, k => by rw [if_neg (by omega)]; rfl
  | q + 1, k => by
    rw [rSh]
    by_cases e : k = q
    · subst e
      rw [xu_s, rSh_i I k (k + 37), if_neg (by omega), if_pos (by omega)]
    · rw [xu_ne (by omega), rSh_i I q k]
      by_cases c : k < q
      · rw [if_pos c, if_pos (by omega)]
      · rw [if_neg c, if_neg (by omega)]
/-- the rows of what is saved, after one more -/
theorem rRem_r (I V : Nat → Nat → Int32) {u u1 o : Nat} (hu : (u = 20 ∧ u1 = 19 ∧ o = 1) ∨ (u < 20 ∧ u1 = u ∧ o = 0)) : (∀ i k, i < u1 → k < 37 → rRem I V u 400 (37 * i + k) = I 400 (37 * (i + o) + k)) ∧ (∀ k, k < 6 → rRem I V u 400 (37 * u1 + k) = V 1 k ∧ rRem I V u 400 (37 * u1 + 6 + k) = V 2 k) ∧ (∀ k, k < 12 → rRem I V u 400 (37 * u1 + 12 + k) = V 9 k ∧ rRem I V u 400 (37 * u1 + 24 + k) = V 10 k) ∧ rRem I V u 400 (37 * u1 + 36) = V 13 0 ∧ rRem I V u 347 83 = nI (u1 + 1) := by
  rcases hu with ⟨rfl, rfl, rfl⟩ | ⟨h, rfl, rfl⟩
  · obtain ⟨p1, p2, p3, p4⟩ := pPut_r (xu (rSh I 703) 347 83 (nI 19)) 400 (37 * 19) V
    have e : ∀ j, rRem I V 20 400 j = pPut (xu (rSh I 703) 347 83 (nI 19)) 400 (37 * 19) V 400 j := fun j => by
      unfold rRem; rw [if_pos rfl]; exact xu_ne (by omega)
    refine ⟨fun i k hi hk => ?_, fun k hk => ⟨(e _).trans (p1 k hk).1, (e _).trans (p1 k hk).2⟩, fun k hk => ⟨(e _).trans (p2 k hk).1, (e _).trans (p2 k hk).2⟩, (e _).trans p3, rRem_83⟩
    rw [e, p4 _ (by omega), xu_ne (by omega), rSh_i, if_pos (by omega)]
    congr 1
    omega
  · obtain ⟨p1, p2, p3, p4⟩ := pPut_r I 400 (37 * u1) V
    have e : ∀ j, rRem I V u1 400 j = pPut I 400 (37 * u1) V 400 j := fun j => by
      unfold rRem; rw [if_neg (by omega)]; exact xu_ne (by omega)
    refine ⟨fun i k hi hk => ?_, fun k hk => ⟨(e _).trans (p1 k hk).1, (e _).trans (p1 k hk).2⟩, fun k hk => ⟨(e _).trans (p2 k hk).1, (e _).trans (p2 k hk).2⟩, (e _).trans p3, ?_⟩
    · rw [e, p4 _ (by omega)]; rfl
    · rw [rRem_83, if_neg (by omega)]
/-- what an act leaves of a bridge: what was told, tied, due, painted, and the year -/
def vK (n m : Nat) (V X : Nat → Nat → Int32) : Prop := (∀ k, k < n → X 3 k = V 3 k ∧ X 4 k = V 4 k ∧ X 5 k = V 5 k ∧ X 6 k = V 6 k ∧ X 7 k = V 7 k ∧ X 8 k = V 8 k) ∧ (∀ k, k < m → X 11 k = V 11 k) ∧ X 12 0 = V 12 0 ∧ X 15 0 = V 15 0
theorem zU.push {t np q n m u sn n' u1 o : Nat} {I I2 Vn : Nat → Nat → Int32} {P P1 : Nat → Nat → Nat} (h : zU t np q n m u sn I P) (hnp : np ≤ 6) (h12 : n ≤ 12) (hu : (u = 20 ∧ u1 = 19 ∧ o = 1) ∨ (u < 20 ∧ u1 = u ∧ o = 0)) (c12 : I2 0 12 = nI ((sn + 1) % 20)) (c13 : I2 0 13 = nI (u1 + 1)) (c83 : I2 347 83 = nI (u1 + 1)) (r : ∀ i k, i < u1 → k < 37 → I2 400 (37 * i + k) = I 400 (37 * (i + o) + k)) (eb : ∀ a k, ((44 ≤ a ∧ a ≤ 55) ∨ ((107 ≤ a ∧ a < 347) ∧ ¬ (107 + 12 * sn ≤ a ∧ a ≤ 107 + 12 * sn + 11))) → I2 a k = I a k) (eP : ∀ b, 107 ≤ b → b < 347 → b ≠ 107 + 12 * sn → P1 b 0 = P b 0) (eP2 : P1 (107 + 12 * sn) 0 = t + 1) (hnn : n ≤ n') (hV : vK n m (vB I 56) (vB I2 56)) (hs : vSm (vB I2 (107 + 12 * sn)) Vn) (hn : eU np q n' m n u1 I2 Vn) : zU t np q n' m (u1 + 1) ((sn + 1) % 20) I2 P1 := by
  obtain ⟨h1, h2, h3, h4, h5, N, h6, h7⟩ := h
  refine ⟨by omega, Nat.mod_lt _ (by decide), c13, c12, c83, fun i => if i < u1 then N (i + o) else n, fun i hi => ?_, fun i j hij hj => ?_⟩
  · show _ ∧ ∃ Vs, _ ∧ eU np q n' m (if i < u1 then N (i + o) else n) i I2 Vs
    by_cases c : i < u1
    · rw [if_pos c]
      have es : sv ((sn + 1) % 20) (u1 + 1) i = sv sn u (i + o) := by unfold sv; omega
      have zn : (sn + 20 - u + (i + o)) % 20 ≠ sn := by omega
      have zd : sv sn u (i + o) = 107 + 12 * ((sn + 20 - u + (i + o)) % 20) := rfl
      have zi := sv_i sn u (i + o)
      obtain ⟨w1, Vs, w3, x1, x2, x3, x4, x5, x6, x7, x8, x9⟩ := h6 (i + o) (by omega)
      refine ⟨by rw [es]; exact (eP _ (by omega) (by omega) (by omega)).trans w1, Vs, ?_, ?_, by omega, fun k hk => ?_, fun k hk => ?_, fun k hk => ?_, ?_, fun k hk => ?_, ?_, ?_⟩
      · rw [es, show vB I2 (sv sn u (i + o)) = vB I (sv sn u (i + o)) from vB_c (fun a k z1 z2 => eb a k (by omega))]; exact w3
      · rw [show vB I2 44 = vB I 44 from vB_c (fun a k z1 z2 => eb a k (by omega))]; exact x1
      · rw [r i k c (by omega), show 37 * i + 6 + k = 37 * i + (6 + k) by omega, r i (6 + k) c (by omega), ← Nat.add_assoc]; exact x3 k hk
      · have z1 := x4 k hk
        have z2 := hV.1 k (by omega)
        rw [show 37 * i + 12 + k = 37 * i + (12 + k) by omega, r i (12 + k) c (by omega), show 37 * i + 24 + k = 37 * i + (24 + k) by omega, r i (24 + k) c (by omega), ← Nat.add_assoc, ← Nat.add_assoc, z2.1, z2.2.1, z2.2.2.1, z2.2.2.2.1, z2.2.2.2.2.1, z2.2.2.2.2.2]
        exact z1
      · rw [show 37 * i + 24 + k = 37 * i + (24 + k) by omega, r i (24 + k) c (by omega), ← Nat.add_assoc]; exact x5 k hk
      · rw [r i 36 c (by omega)]; exact x6
      · rw [hV.2.1 k hk]; exact x7 k hk
      · rw [hV.2.2.1]; exact x8
      · rw [hV.2.2.2]; exact x9
    · have ei : i = u1 := by omega
      subst ei
      rw [if_neg c]
      have es : sv ((sn + 1) % 20) (i + 1) i = 107 + 12 * sn := by unfold sv; omega
      rw [es]
      exact ⟨eP2, Vn, hs, hn⟩
  · show (if i < u1 then N (i + o) else n) ≤ (if j < u1 then N (j + o) else n)
    by_cases c : j < u1
    · rw [if_pos c, if_pos (by omega)]; exact h7 _ _ (by omega) (by omega)
    · rw [if_neg c]
      by_cases c2 : i < u1
      · rw [if_pos c2]
        obtain ⟨-, -, -, -, x2, -⟩ := h6 (i + o) (by omega)
        exact x2
      · rw [if_neg c2]; exact Nat.le_refl _
