/-! painted, answered alike -/
theorem sMr_f {I M : Nat → Nat → Int32} {B : Nat → Int32} {kb : Nat} (hk : kb ≤ 24) (h395 : ∀ k, M 395 k = I 395 k) (hz : ∀ j, j < kb → zS1 I j) (hB : ∀ y, ¬ B y < 0) : sMr M B kb (cLs M kb) ↔ ∀ i, i < kb → (¬ M 396 i = 0 ∧ ¬ I 97 i = 2) → fitS I B i := by
  unfold sMr
  constructor
  · intro h i hi hb
    rcases hz i hi with ⟨z1, -⟩ | ⟨z1, z2, z3, ⟨y, -, y2, y3⟩, z5, z6, z7⟩
    · exact absurd z1 hb.2
    · have le : nI y ≤ cLs M kb := by
        have := cLs_ge M kb i hi hb.1
        rw [h395, z3, y3] at this; exact this
      have := h y y2 le i hi
      unfold okB at this
      rw [h395, h395, h395, h395, z2, z3, z5, z7, ← sSag_r (hB y)] at this
      unfold fitS
      rw [y3, nI_clamp (by omega)]
      rcases this with w | w | w
      · exact absurd w hb.1
      · exact absurd y3 w
      · exact w
  · intro h y hy hl i hi
    unfold okB
    by_cases c0 : M 396 i = 0
    · exact Or.inl c0
    · right
      rcases hz i hi with ⟨z1, z2, -⟩ | ⟨z1, z2, z3, ⟨y', -, y2, y3⟩, z5, z6, z7⟩
      · left
        rw [h395, z2]
        exact fun w => nI_nm1 (q := y) (by omega) w.symm
      · by_cases e : M 395 (4 * i) = nI y
        · right
          have n2 : ¬ I 97 i = 2 := fun w => by
            rcases z1 with z1 | z1
            · rw [z1] at w; exact absurd w (by decide)
            · rw [z1] at w; exact absurd w (by decide)
          have f := h i hi ⟨c0, n2⟩
          rw [h395, z3] at e
          unfold fitS at f
          rw [e, nI_clamp (by omega)] at f
          rw [h395, h395, h395, z2, z5, z7, ← sSag_r (hB y)]
          exact f
        · exact Or.inl e
theorem sPd_c {M M' : Nat → Prop} : ∀ n, (∀ c, c < n → (M c ↔ M' c)) → sPd M n = sPd M' n
  | 0, _ => rfl
  | n + 1, h => by
    have ih := sPd_c n (fun c hc => h c (by omega))
    have z := h n (by omega)
    by_cases c : M n
    · rw [sPd_t c, sPd_t (z.mp c), ih]
    · rw [sPd_f c, sPd_f (fun y => c (z.mpr y)), ih]
/-- whether the strand c alone painted makes the known sags: alike -/
theorem made_E {t np q n m s kb u sn : Nat} {I M : Nat → Nat → Int32} {P : Nat → Nat → Nat} (h : Rel t np q n m s kb u sn I P) (eM : ∀ a k, (351 ≤ a ∧ a ≤ 390) ∨ a = 395 → M a k = I a k) (e396 : ∀ i, i < kb → (dB (sKb I kb 0 0) i ↔ ¬ M 396 i = 0 ∧ ¬ I 97 i = 2)) (ebz : ∀ i, kb ≤ i → i < 32 → ¬ dB (sKb I kb 0 0) i) (c : Nat) : sMk I (fun y => sBr ((sYr (sPa (vB I 44) (nI c) (I t 9)) (Lv I t) q (fun o => I (t + o)) m) y) (Lv I t) q) (sKb I kb 0 0) s (lastY I (sKb I kb 0 0) s) ↔ cM M (Lv I t) q m kb c := by
  obtain ⟨h1, h2, h3, h4, h5, h6, h7, h8, h9, h10⟩ := h
  have hkb : kb ≤ s := by
    rcases h8.2.2.2.2.1 with ⟨-, z⟩ | ⟨-, z⟩
    · omega
    · exact z
  have hs := h8.1
  have hv0 : Vok (sPa (vB I 44) (nI c) (I t 9)) q := h6.2.2.2.1.1.xu (by decide) (by decide) (by decide)
  have hb0 : Bd np q (sPa (vB I 44) (nI c) (I t 9)) := h6.2.2.2.1.2.2.2.1.xu (by decide) (by decide)
  have hw0 : Vw q (sPa (vB I 44) (nI c) (I t 9)) := Vw.of h6.2.2.2.1.2.2.2.2.1 (fun f k z => xu_f _ _ (by omega))
  have hE := told_E h2.2.2.2.1 h3.1 h4.1 h6 h7 (I' := M) (fun a k z1 z2 => eM a k (by omega)) c
  have q12 := hv0.1
  have eB : (fun y => sBr (sYr (cU M q c (vR M 0)) (Lv I t) q (rT M) m y) (Lv I t) q) = (fun y => sBr ((sYr (sPa (vB I 44) (nI c) (I t 9)) (Lv I t) q (fun o => I (t + o)) m) y) (Lv I t) q) := funext fun y => by
    rw [vR_c (I := I) (fun a k z1 z2 => eM a k (by omega)), rT_c (I := I) (fun a k z => eM a k (by omega))]
    exact ((hE.yr hv0 hb0 (LL.rf (Lv I t)) (tE.z h3 h4) y).br (hv0.yr _ _ _ y) (hb0.yr _ _ _ y) (LL.rf (Lv I t)) q (Nat.le_refl _)).symm
  have hB : ∀ y, ¬ (fun y => sBr ((sYr (sPa (vB I 44) (nI c) (I t 9)) (Lv I t) q (fun o => I (t + o)) m) y) (Lv I t) q) y < 0 := fun y => by
    have := in0.br (hv0.yr (Lv I t) (fun o => I (t + o)) m y) (hw0.yr q12 (Lv I t) (fun o => I (t + o)) m y).1 (by
      rw [sYr_k _ _ _ _ _ (by omega)]
      unfold sPa
      rw [xu_f _ _ (by decide)]; exact h6.2.2.2.2.1) (Lv I t) q (Nat.le_refl _)
    exact this.lt0 (by omega)
  unfold cM
  rw [eB]
  generalize (fun y => sBr ((sYr (sPa (vB I 44) (nI c) (I t 9)) (Lv I t) q (fun o => I (t + o)) m) y) (Lv I t) q) = B at hB
  rw [sMk_f hs hkb (fun i hi hb => by
    have hik : i < kb := Classical.byContradiction fun z => ebz i (by omega) (by omega) hb
    refine ⟨hik, ?_⟩
    rcases h8.2.2.2.2.2 i hi with ⟨z1, -⟩ | ⟨-, -, -, z4, -⟩
    · exact absurd z1 ((e396 i hik).mp hb).2
    · exact z4), sMr_f (I := I) (by omega) (fun k => eM 395 k (by omega)) (fun j hj => h8.2.2.2.2.2 j (by omega)) hB]
  exact ⟨fun z i hi y => z i hi ((e396 i hi).mpr y), fun z i hi y => z i hi ((e396 i hi).mp y)⟩
theorem known_m {t np q n m s kb u sn : Nat} {I I0 : Nat → Nat → Int32} {P : Nat → Nat → Nat} (h : Rel t np q n m s kb u sn I P) (e395 : ∀ k, I0 395 k = I 395 k) : (∀ i, i < kb → (dB (sKb I kb 0 0) i ↔ ¬ cC I0 kb 396 i = 0 ∧ ¬ I 97 i = 2)) ∧ ∀ i, kb ≤ i → i < 32 → ¬ dB (sKb I kb 0 0) i := by
  have h8 := h.2.2.2.2.2.2.2.1
  have hkb : kb ≤ s := by
    rcases h8.2.2.2.2.1 with ⟨-, z⟩ | ⟨-, z⟩
    · omega
    · exact z
  have hs := h8.1
  obtain ⟨-, i2, i3⟩ := known_b (I := I) (N := kb) (by omega) (fun j hj => h8.2.2.2.2.2 j (by omega)) kb (Nat.le_refl _) 0 0 (cT1 I0 kb) (fun k => (cT1_o I0 (by decide) k kb).trans (e395 k)) (fun i hi => by
    rw [cT1_i I0 kb i hi]
    exact ⟨fun z => absurd z (dB_zero (by omega)), fun z => absurd z (by decide)⟩) (fun i hi => dB_zero (by omega))
  exact ⟨i2, fun i h1 h2 z => dB_zero h2 ((i3 i h1 h2).mp z)⟩
theorem painted_Cl {E : xCl} {ex : Bool} : Cl E ex yX10_painted [.ref 0] yX11_painted [.ref 347] := by
  intro I J P hX N hN
  obtain ⟨t, np, q, n, m, s, kb, u, sn, h⟩ := hX
  have h1 := h.1
  have h2 := h.2.1
  have h4 := h.2.2.2.1
  have h5 := h.2.2.2.2.1
  have h6 := h.2.2.2.2.2.1
  have h7 := h.2.2.2.2.2.2.1
  have h8 := h.2.2.2.2.2.2.2.1
  have hp := h7.2.2.2.2.2
  have hs := h8.1
  have hkb : kb ≤ s := by
    rcases h8.2.2.2.2.1 with ⟨-, z⟩ | ⟨-, z⟩
    · omega
    · exact z
  obtain ⟨J1, W1, P1, cc, -, hPb⟩ := k_painted (E := E) (ex := ex) (I := I) (W := vB I 80) (J := J) h1.2.1 h1.1 h1.2.2.1 h1.2.2.2.2.1 h6.2.2.2.1.1 h5.1 h4.1 h4.2.1 h4.2.2.2.2 h8.1 h8.2.1 h6.1 h6.2.1 (q := kb) (by omega) h8.kb.1 0
  rw [wB_vB] at cc
  have i0 : ∀ a k, ¬ (80 ≤ a ∧ a ≤ 91) → ¬ (a = 347 ∧ k = 2) → xu (wB I 80 W1) 347 2 0 a k = I a k := fun a k z1 z2 => w80_e z1 z2
  obtain ⟨e', J2, W2, rr, -, hf⟩ := k_rpainted (E := E) (ex := ex) (I := wB I 80 W1) (J := J1) (P := P1) (h1.2.1.ap hPb) rfl h6.1 ((i0 _ _ (by omega) (by omega)).trans h6.2.2.1) (fun j hj => by rw [i0 _ _ (by omega) (by omega)]; exact (h2.2.2.2.1 j).2.2.1) (fun j hj => by
    have tk := h6.2.2.2.1.2.2.1 j hj
    have z := (h6.2.2.2.2.2.2.1 j hj).2.2.2.2.2.2.2
    rw [i0 _ _ (by omega) (by omega), ← z]
    rcases tk with w | ⟨y, w1, w2, w3, w4⟩
    · exact Or.inl w
    · refine Or.inr ⟨y, w1, w2, w3, ?_⟩
      rw [i0 _ _ (by omega) (by omega), ← (h6.2.2.2.2.2.2.1 y w1).2.2.2.2.2.2.2]; exact w4) (fun k => by rw [i0 _ _ (by omega) (by omega)]; exact h7.2.2.1 k) (fun k => by rw [i0 _ _ (by omega) (by omega)]; exact h7.2.2.2.1 k) (h5.2.1.of (fun a z1 z2 => funext fun k => i0 a k (by omega) (by omega))) (Lv_7 I t) h4.1 ((i0 _ _ (by omega) (by omega)).trans h4.2.2.1) (fun k => by rw [i0 _ _ (by omega) (by omega)]; exact (h2.2.2.2.1 k).2.2.2) (kb := kb) (by omega) (by
    have := h8.kb.2
    unfold rKb at this ⊢
    rw [i0 _ _ (by omega) (by omega), i0 _ _ (by omega) (by omega)]; exact this) (hp.c (fun k => i0 _ _ (by omega) (by omega))) (fun k hk z => by
    rw [i0 _ _ (by omega) (by omega)] at z ⊢
    rcases h8.2.2.2.2.2 k (by omega) with ⟨-, -, z3, y, z4, z5⟩ | ⟨-, -, z3, z4, -⟩
    · rw [z3, z5]; exact vp_in_nI (by omega) (by decide)
    · rw [z3] at z; exact absurd z (z4.lt0 (by omega))) (fun j hj z => by
    rw [i0 _ _ (by omega) (by omega)] at z
    rcases h8.2.2.2.2.2 j (by omega) with ⟨-, z2, -⟩ | ⟨-, -, z3, ⟨y, -, y2, y3⟩, -⟩
    · rw [z2] at z; exact absurd z (by decide)
    · rw [z3, y3] at z; exact nI_ge (a := y) (b := 51) (by omega) (by omega) z) 0
  have km := known_m h (I0 := xu (wB I 80 W1) 347 2 0) (fun k => i0 395 k (by omega) (by omega))
  have eM : ∀ a k, (351 ≤ a ∧ a ≤ 390) ∨ a = 395 → cC (xu (wB I 80 W1) 347 2 0) kb a k = I a k := fun a k z => (cC_o _ _ (by omega) k).trans (i0 a k (by omega) (by omega))
  rw [← sPd_c (q + 1) (fun c _ => made_E h eM km.1 km.2 c)] at rr
  rw [w80_v] at hf
  have e : ∀ a k, ¬ ((80 ≤ a ∧ a ≤ 91) ∨ (a = 347 ∧ (k = 2 ∨ k = 52 ∨ k = 69 ∨ k = 70 ∨ k = 71)) ∨ (98 ≤ a ∧ a ≤ 106) ∨ (391 ≤ a ∧ a ≤ 394) ∨ (396 ≤ a ∧ a ≤ 399)) → wE (rPl (cC (xu (wB I 80 W1) 347 2 0) kb)) e' a k = I a k := fun a k z => by
    unfold wE rPl
    rw [xu_ne (by omega), xu_ne (by omega), xu_ne (by omega), xu_ne (by omega), cC_o _ _ (by omega), i0 a k (by omega) (by omega)]
  exact ⟨_, _, _, _, _, _, x_le (by omega) cc, x_le (by omega) rr, t, np, q, n, m, s, kb, u, sn, h.g (ag_t e hf) hPb (pt_t (hp.c (fun k => e 387 k (by omega))))⟩
