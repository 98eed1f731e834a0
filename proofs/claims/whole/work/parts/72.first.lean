/-! the bridge as it was told: what stands in it -/
theorem aT1_v (W I : Nat → Nat → Int32) : ∀ n, (∀ k, k < n → aT1 W I n 1 k = I 354 k ∧ aT1 W I n 2 k = I 353 k) ∧ ∀ f k, f ≠ 1 → f ≠ 2 → aT1 W I n f k = W f k
  | 0 => ⟨fun k h => absurd h (by omega), fun f k _ _ => rfl⟩
  | n + 1 => by
    obtain ⟨h1, h3⟩ := aT1_v W I n
    refine ⟨fun k hk => ?_, fun f k hf1 hf2 => ?_⟩
    · rw [aT1]
      by_cases h : k = n
      · subst h
        exact ⟨by rw [xu_f _ _ (by decide), xu_s], xu_s _ _ _ _⟩
      · obtain ⟨a, b⟩ := h1 k (by omega)
        refine ⟨?_, ?_⟩
        · rw [xu_f _ _ (by decide), xu_k _ _ _ _ h]; exact a
        · rw [xu_k _ _ _ _ h, xu_f _ _ (by decide)]; exact b
    · rw [aT1, xu_f _ _ hf2, xu_f _ _ hf1, h3 f k hf1 hf2]
theorem aS_o (I : Nat → Nat → Int32) (b s : Nat) (W : Nat → Nat → Int32) {f k : Nat} (h : f ≠ 5 ∧ f ≠ 6 ∧ f ≠ 9 ∧ f ≠ 10 ∧ f ≠ 12) (h2 : b = 0 → f ≠ 3 ∧ f ≠ 4 ∧ f ≠ 8 ∧ f ≠ 7) : aS I b s W f k = W f k := by
  unfold aS
  dsimp only
  rw [xu_f _ _ h.2.2.2.2, xu_f _ _ h.2.2.2.1, xu_f _ _ h.2.2.1, xu_f _ _ h.2.1, xu_f _ _ h.1]
  split
  · rename_i hb
    obtain ⟨a, b, c, d⟩ := h2 hb
    rw [xu_f _ _ d, xu_f _ _ c, xu_f _ _ b, xu_f _ _ a]
  · rfl
theorem aS_k (I : Nat → Nat → Int32) (b s : Nat) (W : Nat → Nat → Int32) {f k : Nat} (hf : f ≠ 12) (h : k ≠ s) : aS I b s W f k = W f k := by
  have e : ∀ (X : Nat → Nat → Int32) (g : Nat) (v : Int32), xu X g s v f k = X f k := fun X g v => by simp [xu, h]
  unfold aS
  dsimp only
  rw [xu_f _ _ hf, e, e, e, e]
  split
  · rw [e, e, e, e]
  · rfl
theorem aT2_v (I : Nat → Nat → Int32) (b : Nat) (W : Nat → Nat → Int32) (hp : ∀ j, j < 10 → I 361 j = 0 ∨ I 361 j = 1) : ∀ n, n ≤ 10 → (∀ k, k < n → aT2 I b W n 5 k = I 358 k ∧ aT2 I b W n 6 k = I 359 k ∧ aT2 I b W n 9 k = 0 ∧ aT2 I b W n 10 k = I 362 k ∧ bI (aT2 I b W n 12 0) k = I 361 k ∧ (b = 0 → aT2 I b W n 3 k = I 356 k ∧ aT2 I b W n 4 k = I 357 k ∧ aT2 I b W n 8 k = 0 ∧ aT2 I b W n 7 k = I 360 k)) ∧ ∀ f k, (f ≠ 5 ∧ f ≠ 6 ∧ f ≠ 9 ∧ f ≠ 10 ∧ f ≠ 12) → (b = 0 → f ≠ 3 ∧ f ≠ 4 ∧ f ≠ 8 ∧ f ≠ 7) → aT2 I b W n f k = W f k
  | 0, _ => ⟨fun k h => absurd h (by omega), fun f k _ _ => rfl⟩
  | n + 1, hn => by
    obtain ⟨h1, h3⟩ := aT2_v I b W hp n (by omega)
    refine ⟨fun k hk => ?_, fun f k hf hb => ?_⟩
    · rw [aT2]
      have h12 : bI (aS I b n (aT2 I b W n) 12 0) k = if k = n then I 361 n else bI (aT2 I b W n 12 0) k := by
        have e : aS I b n (aT2 I b W n) 12 0 = setB (aT2 I b W n 12 0) n (I 361 n) := by
          unfold aS
          dsimp only
          rw [xu_s, xu_f _ _ (by decide), xu_f _ _ (by decide), xu_f _ _ (by decide), xu_f _ _ (by decide)]
          split
          · rw [xu_f _ _ (by decide), xu_f _ _ (by decide), xu_f _ _ (by decide), xu_f _ _ (by decide)]
          · rfl
        rw [e, bI_set _ (by omega) (by omega) (hp n (by omega))]
      by_cases h : k = n
      · subst h
        rw [if_pos rfl] at h12
        refine ⟨?_, ?_, ?_, ?_, h12, fun hb => ⟨?_, ?_, ?_, ?_⟩⟩
        · unfold aS; simp [xu]
        · unfold aS; simp [xu]
        · unfold aS; simp [xu]
        · unfold aS; simp [xu]
        · unfold aS; simp [xu, hb]
        · unfold aS; simp [xu, hb]
        · unfold aS; simp [xu, hb]
        · unfold aS; simp [xu, hb]
      · rw [if_neg h] at h12
        obtain ⟨a, b', c, d, e, f⟩ := h1 k (by omega)
        refine ⟨?_, ?_, ?_, ?_, h12.trans e, fun hb => ⟨?_, ?_, ?_, ?_⟩⟩
        · rw [aS_k _ _ _ _ (by decide) h]; exact a
        · rw [aS_k _ _ _ _ (by decide) h]; exact b'
        · rw [aS_k _ _ _ _ (by decide) h]; exact c
        · rw [aS_k _ _ _ _ (by decide) h]; exact d
        · rw [aS_k _ _ _ _ (by decide) h]; exact (f hb).1
        · rw [aS_k _ _ _ _ (by decide) h]; exact (f hb).2.1
        · rw [aS_k _ _ _ _ (by decide) h]; exact (f hb).2.2.1
        · rw [aS_k _ _ _ _ (by decide) h]; exact (f hb).2.2.2
    · rw [aT2, aS_o _ _ _ _ hf hb, h3 f k hf hb]
theorem aT3_v (W : Nat → Nat → Int32) : ∀ n, (∀ k, k < n → aT3 W n 11 k = 0) ∧ ∀ f k, f ≠ 11 → aT3 W n f k = W f k
  | 0 => ⟨fun k h => absurd h (by omega), fun f k _ => rfl⟩
  | n + 1 => by
    obtain ⟨h1, h3⟩ := aT3_v W n
    refine ⟨fun k hk => ?_, fun f k hf => ?_⟩
    · rw [aT3]
      by_cases h : k = n
      · subst h; exact xu_s _ _ _ _
      · rw [xu_k _ _ _ _ h]; exact h1 k (by omega)
    · rw [aT3, xu_f _ _ hf, h3 f k hf]
theorem aT_v (I : Nat → Nat → Int32) (b : Nat) {q : Nat} (hq : q ≤ 10) (W : Nat → Nat → Int32) (hp : ∀ j, j < 10 → I 361 j = 0 ∨ I 361 j = 1) : (∀ k, k < 6 → aT I b q W 1 k = I 354 k ∧ aT I b q W 2 k = I 353 k) ∧ (∀ k, k < q → aT I b q W 5 k = I 358 k ∧ aT I b q W 6 k = I 359 k ∧ aT I b q W 9 k = 0 ∧ aT I b q W 10 k = I 362 k ∧ bI (aT I b q W 12 0) k = I 361 k ∧ (b = 0 → aT I b q W 3 k = I 356 k ∧ aT I b q W 4 k = I 357 k ∧ aT I b q W 8 k = 0 ∧ aT I b q W 7 k = I 360 k)) ∧ (∀ k, k < 8 → aT I b q W 11 k = 0) ∧ aT I b q W 13 0 = nI q ∧ aT I b q W 14 0 = I 351 0 ∧ aT I b q W 15 0 = 0 ∧ (b ≠ 0 → ∀ f k, (f = 3 ∨ f = 4 ∨ f = 7 ∨ f = 8) → aT I b q W f k = W f k) := by
  have e3 := aT3_v (aT2 I b (xu (aT1 W I 6) 13 0 (nI q)) q) 8
  have e2 := aT2_v I b (xu (aT1 W I 6) 13 0 (nI q)) hp q hq
  have e1 := aT1_v W I 6
  have g : ∀ f k, f ≠ 14 → f ≠ 15 → f ≠ 11 → aT I b q W f k = aT2 I b (xu (aT1 W I 6) 13 0 (nI q)) q f k := fun f k h1 h2 h3 => by
    rw [aT, xu_f _ _ h1, xu_f _ _ h2, e3.2 f k h3]
  refine ⟨fun k hk => ⟨?_, ?_⟩, fun k hk => ?_, fun k hk => ?_, ?_, ?_, ?_, fun hb f k hf => ?_⟩
  · rw [g 1 k (by decide) (by decide) (by decide), e2.2 1 k (by decide) (fun _ => by decide), xu_f _ _ (by decide), (e1.1 k hk).1]
  · rw [g 2 k (by decide) (by decide) (by decide), e2.2 2 k (by decide) (fun _ => by decide), xu_f _ _ (by decide), (e1.1 k hk).2]
  · rw [g 5 k (by decide) (by decide) (by decide), g 6 k (by decide) (by decide) (by decide), g 9 k (by decide) (by decide) (by decide), g 10 k (by decide) (by decide) (by decide), g 12 0 (by decide) (by decide) (by decide), g 3 k (by decide) (by decide) (by decide), g 4 k (by decide) (by decide) (by decide), g 8 k (by decide) (by decide) (by decide), g 7 k (by decide) (by decide) (by decide)]
    exact e2.1 k hk
  · rw [aT, xu_f _ _ (by decide), xu_f _ _ (by decide), e3.1 k hk]
  · rw [g 13 0 (by decide) (by decide) (by decide), e2.2 13 0 (by decide) (fun _ => by decide), xu_s]
  · rw [aT, xu_s]
  · rw [aT, xu_f _ _ (by decide), xu_s]
  · have h1 : f ≠ 14 ∧ f ≠ 15 ∧ f ≠ 11 ∧ f ≠ 5 ∧ f ≠ 6 ∧ f ≠ 9 ∧ f ≠ 10 ∧ f ≠ 12 ∧ f ≠ 13 ∧ f ≠ 1 ∧ f ≠ 2 := by omega
    rw [g f k h1.1 h1.2.1 h1.2.2.1, e2.2 f k (by omega) (fun z => absurd z hb), xu_f _ _ (by omega), e1.2 f k (by omega) (by omega)]
theorem aT_E (I : Nat → Nat → Int32) {q : Nat} (hq : q ≤ 10) {V W : Nat → Nat → Int32} (hp : ∀ j, j < 10 → I 361 j = 0 ∨ I 361 j = 1) (h : FX V W) : vE 6 q 8 (aT I 1 q W) (aT I 1 q V) := by
  obtain ⟨a1, a2, a3, a4, a5, a6, a7⟩ := aT_v I 1 hq W hp
  obtain ⟨b1, b2, b3, b4, b5, b6, b7⟩ := aT_v I 1 hq V hp
  have a7 := a7 (by decide)
  have b7 := b7 (by decide)
  refine ⟨fun k hk => ⟨(a1 k hk).1.trans (b1 k hk).1.symm, (a1 k hk).2.trans (b1 k hk).2.symm⟩, fun k hk => ?_, fun k hk => (a3 k hk).trans (b3 k hk).symm, a4.trans b4.symm, a5.trans b5.symm, a6.trans b6.symm⟩
  obtain ⟨c5, c6, c9, c10, c12, -⟩ := a2 k hk
  obtain ⟨d5, d6, d9, d10, d12, -⟩ := b2 k hk
  refine ⟨?_, ?_, c5.trans d5.symm, c6.trans d6.symm, ?_, ?_, c9.trans d9.symm, c10.trans d10.symm, c12.trans d12.symm⟩
  · rw [a7 3 k (by simp), b7 3 k (by simp)]; exact h 3 k (by simp)
  · rw [a7 4 k (by simp), b7 4 k (by simp)]; exact h 4 k (by simp)
  · rw [a7 7 k (by simp), b7 7 k (by simp)]; exact h 7 k (by simp)
  · rw [a7 8 k (by simp), b7 8 k (by simp)]; exact h 8 k (by simp)
theorem vE.x12 {np n m : Nat} {V W : Nat → Nat → Int32} (h : vE np n m V W) (y : Int32) : vE np n m (xu V 12 0 y) (xu W 12 0 y) := by
  obtain ⟨h1, h2, h3, h4, h5, h6⟩ := h
  have g : ∀ (X : Nat → Nat → Int32) f' k', f' ≠ 12 → xu X 12 0 y f' k' = X f' k' := fun X f' k' z => xu_f _ _ z
  refine ⟨fun q hq => ?_, fun q hq => ?_, fun q hq => ?_, ?_, ?_, ?_⟩
  · rw [g V 1 q (by decide), g W 1 q (by decide), g V 2 q (by decide), g W 2 q (by decide)]; exact h1 q hq
  · obtain ⟨a, b, c, d, e, f', g', i, j⟩ := h2 q hq
    rw [g V 3 q (by decide), g W 3 q (by decide), g V 4 q (by decide), g W 4 q (by decide), g V 5 q (by decide), g W 5 q (by decide), g V 6 q (by decide), g W 6 q (by decide), g V 7 q (by decide), g W 7 q (by decide), g V 8 q (by decide), g W 8 q (by decide), g V 9 q (by decide), g W 9 q (by decide), g V 10 q (by decide), g W 10 q (by decide), xu_s, xu_s]
    exact ⟨a, b, c, d, e, f', g', i, rfl⟩
  · rw [g V 11 q (by decide), g W 11 q (by decide)]; exact h3 q hq
  · rw [g V 13 0 (by decide), g W 13 0 (by decide)]; exact h4
  · rw [g V 14 0 (by decide), g W 14 0 (by decide)]; exact h5
  · rw [g V 15 0 (by decide), g W 15 0 (by decide)]; exact h6
theorem vE.br' {np n m : Nat} {V W : Nat → Nat → Int32} {L M : Nat → (Nat → Int64) → Int64} (h : vE np n m V W) (hv : Vok V n) (hb : Bd np n V) (hL : LL L M) : sBr V L n = sBr W M n := h.br hv hb hL n (Nat.le_refl _)
theorem LL.rf (L : Nat → (Nat → Int64) → Int64) : LL L L := fun _ _ _ _ => rfl
theorem tE.rf (m : Nat) (T : Nat → Nat → Int32) : tE m T T := fun _ _ => ⟨rfl, rfl, rfl, rfl⟩
/-- the told bridge is a bridge -/
theorem Vok.aT {I : Nat → Nat → Int32} {q : Nat} (hq : q ≤ 10) {W : Nat → Nat → Int32} (hp : ∀ j, j < 10 → I 361 j = 0 ∨ I 361 j = 1) (h3 : ∀ k, vp_in (W 3 k) 6) (h4 : ∀ k, vp_in (W 4 k) 6) : Vok (aT I 1 q W) q := by
  obtain ⟨a1, a2, a3, a4, a5, a6, a7⟩ := aT_v I 1 hq W hp
  refine ⟨by omega, a4, fun k => ?_, fun k => ?_⟩
  · rw [a7 (by decide) 3 k (by simp)]; exact h3 k
  · rw [a7 (by decide) 4 k (by simp)]; exact h4 k
theorem Tok.aT {I : Nat → Nat → Int32} {q : Nat} (hq : q ≤ 10) {W : Nat → Nat → Int32} (hp : ∀ j, j < 10 → I 361 j = 0 ∨ I 361 j = 1) (ht : ∀ j, j < q → I 362 j = -1 ∨ ∃ z, z < q ∧ z ≠ j ∧ I 362 j = nI z ∧ I 362 z = nI j) : Tok (aT I 1 q W) q := by
  obtain ⟨a1, a2, a3, a4, a5, a6, a7⟩ := aT_v I 1 hq W hp
  intro j hj
  rw [(a2 j hj).2.2.2.1]
  rcases ht j hj with h | ⟨z, h1, h2, h3, h4⟩
  · exact Or.inl h
  · exact Or.inr ⟨z, h1, h2, h3, by rw [(a2 z h1).2.2.2.1]; exact h4⟩
theorem FX.aT {I : Nat → Nat → Int32} {q : Nat} (hq : q ≤ 10) {V W : Nat → Nat → Int32} (hp : ∀ j, j < 10 → I 361 j = 0 ∨ I 361 j = 1) (h : FX V W) : FX V (aT I 1 q W) := fun f k hf => by
  rw [(aT_v I 1 hq W hp).2.2.2.2.2.2 (by decide) f k hf]; exact h f k hf
