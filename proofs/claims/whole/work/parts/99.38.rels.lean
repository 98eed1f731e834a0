/-! a sound text leaves both alike -/
theorem aT2_k (I : Nat → Nat → Int32) (b : Nat) (W : Nat → Nat → Int32) {f k : Nat} (hf : f ≠ 12) : ∀ n, n ≤ k → aT2 I b W n f k = W f k
  | 0, _ => rfl
  | n + 1, h => by rw [aT2, aS_k I b n _ hf (by omega), aT2_k I b W hf n (by omega)]
theorem aT_k (I : Nat → Nat → Int32) (b : Nat) {q : Nat} (W : Nat → Nat → Int32) {f k : Nat} (hf : f = 3 ∨ f = 4 ∨ f = 10 ∨ f = 6) (hk : q ≤ k) : aT I b q W f k = W f k := by
  rw [aT, xu_f _ _ (by omega), xu_f _ _ (by omega), (aT3_v _ 8).2 f k (by omega), aT2_k I b _ (by omega) q hk, xu_f _ _ (by omega), (aT1_v W I 6).2 f k (by omega) (by omega)]
theorem kp_o (M : Nat → Nat → Int32) {a k : Nat} (h : ¬ ((a = 347 ∧ 12 ≤ k ∧ k ≤ 15) ∨ (351 ≤ a ∧ a ≤ 371))) : kpP 372 M a k = M a k := by
  simp only [kpP]
  rw [if_neg (by omega), if_neg (by omega)]
theorem kp_i (M : Nat → Nat → Int32) {a k : Nat} (h : 351 ≤ a ∧ a ≤ 371) (hk : k < wd a) : kpP 372 M a k = M a (wd a + k) := by
  simp only [kpP]
  rw [if_neg (by omega), if_pos ⟨by omega, hk⟩]
theorem kp_g (M : Nat → Nat → Int32) {a k : Nat} (h : 351 ≤ a ∧ a ≤ 371) (hk : ¬ k < wd a) : kpP 372 M a k = M a k := by
  simp only [kpP]
  rw [if_neg (by omega), if_neg (fun z => hk z.2)]
theorem kp_h (M : Nat → Nat → Int32) {k : Nat} (h : 12 ≤ k ∧ k ≤ 15) : kpP 372 M 347 k = M 347 (k + 4) := by
  exact if_pos (c := 347 = 347 ∧ 12 ≤ k ∧ k ≤ 15) ⟨rfl, h⟩
set_option maxHeartbeats 4000000 in
theorem text_s {t np0 q0 n0 m0 s0 kb0 u0 sn s i p np nd nc q ln : Nat} {I K' M' I1 B C2 I2 : Nat → Nat → Int32} {P P1 : Nat → Nat → Nat} (h : Rel t np0 q0 n0 m0 s0 kb0 u0 sn I P) (hR : Rl s i p np nd nc q ln K' M') (hl : LF (xu (xu I 347 2 0) 347 1 0) M')
    (hP1 : zP (34 - t) P1)
    (c1 : ∀ a k, a < 347 → I2 a k = I1 a k)
    (c2 : ∀ a k, (348 ≤ a ∧ a ≤ 375) ∨ (391 ≤ a ∧ a ≤ 403) → I2 a k = kpP 372 M' a k)
    (c3 : ∀ k, ¬ (k = 52 ∨ k = 69 ∨ k = 70 ∨ k = 71 ∨ k = 76 ∨ k = 77 ∨ k = 83 ∨ k = 85) → I2 347 k = kpP 372 M' 347 k)
    (c4 : I2 347 76 = 0 ∧ I2 347 77 = -1 ∧ I2 347 83 = 0 ∧ I2 347 85 = 0)
    (c5 : I2 = wR C2 0 (aT B 0 nd (vR B 0))) (c6 : ∀ a k, 376 ≤ a → a ≤ 390 → C2 a k = M' a k) (c7 : ∀ a k, 347 ≤ a → a ≤ 403 → B a k = kpP 372 M' a k)
    (d0 : I1 0 1 = 0 ∧ I1 0 2 = K' 2 4 ∧ I1 0 3 = K' 2 5 ∧ I1 0 9 = 0 ∧ I1 0 13 = 0 ∧ I1 0 12 = I 0 12 ∧ I1 93 4 = 0 ∧ I1 93 5 = -1)
    (d1 : ∀ j k, j < 13 → I1 (34 - t + j) k = K' (500 + j) k) (d2 : ∀ k, I1 19 k = K' 19 k ∧ I1 20 k = K' 20 k) (d3 : ∀ k, I1 (t + 4) k = I (t + 4) k)
    (d4 : ∀ b, b = 44 ∨ b = 56 → (∀ f k, 1 ≤ f → f < 12 → k < bl f → I1 (b + f) k = K' (16 + f) k) ∧ (∀ f, 12 ≤ f → f < 16 → I1 b f = K' 16 f) ∧ ∀ f k, 1 ≤ f → f < 12 → ¬ k < bl f → I1 (b + f) k = I (b + f) k) : Rel (34 - t) np nd nd nc 0 0 0 sn I2 P1 := by
  obtain ⟨h1, h2, h3, h4, h5, h6, h7, h8, h9, h10⟩ := h
  obtain ⟨gt, gf, gp, gd, gx, go, gw, gb⟩ := hR
  have ht := tl_c h1.1
  have ht2 := t2_in h1.1
  have lM : ∀ a k, 376 ≤ a → a ≤ 390 → M' a k = I a k := fun a k z1 z2 => (hl.1 a k (by omega)).trans ((xu_ne (by omega)).trans (xu_ne (by omega)))
  have jz : jZ M' := hl.2 (fun k => by
    rw [xu_ne (by omega), xu_ne (by omega), xu_ne (by omega), xu_ne (by omega), xu_ne (by omega), xu_ne (by omega), xu_ne (by omega), xu_ne (by omega)]
    exact h2.2.2.2.1 k)
  have eT : ∀ j k, j < 13 → I2 (34 - t + j) k = K' (500 + j) k := fun j k hj => (c1 _ _ (by omega)).trans (d1 j k hj)
  have eT0 : ∀ k, I2 (34 - t) k = K' 500 k := fun k => eT 0 k (by omega)
  have k6 : ∀ a k, 352 ≤ a → a ≤ 355 → k < 6 → I2 a k = M' a (6 + k) := fun a k z1 z2 z3 => by
    have w : wd a = 6 := by unfold wd; rw [if_neg (by omega), if_pos (by omega)]
    rw [c2 a k (by omega), kp_i M' (by omega) (by rw [w]; exact z3), w]
  have k10 : ∀ a k, 356 ≤ a → a ≤ 362 → k < 10 → I2 a k = M' a (10 + k) := fun a k z1 z2 z3 => by
    have w : wd a = 10 := by unfold wd; rw [if_neg (by omega), if_neg (by omega), if_pos (by omega)]
    rw [c2 a k (by omega), kp_i M' (by omega) (by rw [w]; exact z3), w]
  have k8 : ∀ a k, 363 ≤ a → a ≤ 365 → k < 8 → I2 a k = M' a (8 + k) := fun a k z1 z2 z3 => by
    have w : wd a = 8 := by unfold wd; rw [if_neg (by omega), if_neg (by omega), if_neg (by omega), if_pos (by omega)]
    rw [c2 a k (by omega), kp_i M' (by omega) (by rw [w]; exact z3), w]
  have k3 : ∀ a k, 366 ≤ a → a ≤ 368 → k < 3 → I2 a k = M' a (3 + k) := fun a k z1 z2 z3 => by
    have w : wd a = 3 := by unfold wd; rw [if_neg (by omega), if_neg (by omega), if_neg (by omega), if_neg (by omega), if_pos (by omega)]
    rw [c2 a k (by omega), kp_i M' (by omega) (by rw [w]; exact z3), w]
  have k64 : ∀ a k, 369 ≤ a → a ≤ 371 → k < 64 → I2 a k = M' a (64 + k) := fun a k z1 z2 z3 => by
    have w : wd a = 64 := by unfold wd; rw [if_neg (by omega), if_neg (by omega), if_neg (by omega), if_neg (by omega), if_neg (by omega)]
    rw [c2 a k (by omega), kp_i M' (by omega) (by rw [w]; exact z3), w]
  have kH : ∀ k, 12 ≤ k → k ≤ 15 → I2 347 k = M' 347 (k + 4) := fun k z1 z2 => (c3 k (by omega)).trans (kp_h M' ⟨z1, z2⟩)
  have kJ : ∀ a k, (a = 356 ∨ a = 357 ∨ a = 361 ∨ a = 363) → ∃ j, I2 a k = M' a j := fun a k z => by
    by_cases w : k < wd a
    · exact ⟨_, (c2 a k (by omega)).trans (kp_i M' (by omega) w)⟩
    · exact ⟨k, (c2 a k (by omega)).trans (kp_g M' (by omega) w)⟩
  have n6 := gp.1
  have n10 := gd.1
  have n8 := gx.1
  -- the told bridge, seen in 44 and in 56
  have vw : ∀ b, b = 44 ∨ b = 56 → (∀ f k, 1 ≤ f → f < 12 → k < bl f → vB I2 b f k = K' (16 + f) k) ∧ (∀ f, 12 ≤ f → f < 16 → vB I2 b f 0 = K' 16 f) := fun b hb => by
    obtain ⟨w1, w2, -⟩ := d4 b hb
    refine ⟨fun f k z1 z2 z3 => ?_, fun f z1 z2 => ?_⟩
    · show (if f < 12 then I2 (b + f) k else I2 b f) = _
      rw [if_pos z2, c1 _ _ (by omega), w1 f k z1 z2 z3]
    · show (if f < 12 then I2 (b + f) 0 else I2 b f) = _
      rw [if_neg (by omega), c1 _ _ (by omega), w2 f z1 z2]
  have vok : ∀ b, b = 44 ∨ b = 56 → Vok (vB I b) (if b = 44 then q0 else n0) → Vok (vB I2 b) nd := fun b hb ho => by
    obtain ⟨-, -, w3⟩ := d4 b hb
    obtain ⟨v1, v2⟩ := vw b hb
    have key : ∀ f, f = 3 ∨ f = 4 → (∀ k, vp_in (vB I b f k) 6) → (∀ k, vp_in (K' (16 + f) k) 6) → ∀ k, vp_in (vB I2 b f k) 6 := fun f hf g1 g2 k => by
      by_cases hk : k < bl f
      · rw [v1 f k (by omega) (by omega) hk]; exact g2 k
      · show vp_in (if f < 12 then I2 (b + f) k else I2 b f) 6
        rw [if_pos (by omega), c1 _ _ (by omega), w3 f k (by omega) (by omega) hk]
        have := g1 k
        simp only [vB] at this
        rwa [if_pos (by omega)] at this
    exact ⟨by omega, (v2 13 (by omega) (by omega)).trans gd.2.1, key 3 (Or.inl rfl) ho.2.2.1 (fun k => (gb k).1), key 4 (Or.inr rfl) ho.2.2.2 (fun k => (gb k).2.1)⟩
  have b12' : ∀ f k, (f = 3 ∨ f = 4 ∨ f = 5 ∨ f = 6 ∨ f = 7 ∨ f = 8 ∨ f = 9 ∨ f = 10) → k < 12 → k < bl f := fun f k hf hk => by unfold bl; rw [if_neg (by omega), if_neg (by omega)]; exact hk
  have b6' : ∀ f k, (f = 1 ∨ f = 2) → k < 6 → k < bl f := fun f k hf hk => by unfold bl; rw [if_pos (by omega)]; exact hk
  have vg : ∀ b, b = 44 ∨ b = 56 → Vok (vB I2 b) nd → vG np nd nd (vB I2 b) (vB I2 44) := fun b hb hv => by
    obtain ⟨v1, v2⟩ := vw b hb
    obtain ⟨u1, u2⟩ := vw 44 (Or.inl rfl)
    refine ⟨hv, Nat.le_refl _, fun j hj => ?_, fun j hj => ?_, fun j hj _ => ?_, fun j hj => ?_, ?_, ?_, ?_⟩
    · rw [v1 10 j (by omega) (by omega) (b12' 10 j (by omega) (by omega))]
      rcases gd.2.2.2.2.2.2.2 j hj with z | ⟨y, z1, z2, z3, z4⟩
      · exact Or.inl z
      · exact Or.inr ⟨y, z1, z2, z3, (v1 10 y (by omega) (by omega) (b12' 10 y (by omega) (by omega))).trans z4⟩
    · rw [v1 3 j (by omega) (by omega) (b12' 3 j (by omega) (by omega)), v1 4 j (by omega) (by omega) (b12' 4 j (by omega) (by omega))]
      have w := gd.2.2.2.2.2.1 j hj
      exact ⟨w.1, w.2.2.1⟩
    · rw [v1 5 j (by omega) (by omega) (b12' 5 j (by omega) (by omega)), v1 6 j (by omega) (by omega) (b12' 6 j (by omega) (by omega))]
      have w := gd.2.2.2.2.2.1 j hj
      obtain ⟨y, y1, y2, y3⟩ := w.2.2.2.2.2.1
      exact ⟨⟨y, by omega, by omega, y3⟩, w.2.2.2.2.2.2.2.1⟩
    · rw [v1 3 j (by omega) (by omega) (b12' 3 j (by omega) (by omega)), v1 4 j (by omega) (by omega) (b12' 4 j (by omega) (by omega)), v1 7 j (by omega) (by omega) (b12' 7 j (by omega) (by omega)), v1 8 j (by omega) (by omega) (b12' 8 j (by omega) (by omega)), u1 3 j (by omega) (by omega) (b12' 3 j (by omega) (by omega)), u1 4 j (by omega) (by omega) (b12' 4 j (by omega) (by omega)), u1 7 j (by omega) (by omega) (b12' 7 j (by omega) (by omega)), u1 8 j (by omega) (by omega) (b12' 8 j (by omega) (by omega))]
      exact ⟨rfl, rfl, rfl, rfl⟩
    · rw [v2 12 (by omega) (by omega)]; exact gd.2.2.2.2.1
    · rw [v2 14 (by omega) (by omega), u2 14 (by omega) (by omega)]
    · rw [v2 15 (by omega) (by omega), go.2.2.2.2.2.1]; exact ⟨0, by omega, by omega, rfl⟩
  have vk44 := vok 44 (Or.inl rfl) (by rw [if_pos rfl]; exact h6.2.2.2.1.1)
  have vk56 := vok 56 (Or.inr rfl) (by rw [if_neg (by decide)]; exact h7.1.1)
  obtain ⟨u1, u2⟩ := vw 44 (Or.inl rfl)
  obtain ⟨w1, w2⟩ := vw 56 (Or.inr rfl)
  have hp01 : ∀ j, j < 10 → B 361 j = 0 ∨ B 361 j = 1 := fun j hj => by
    rw [c7 361 j (by omega) (by omega), kp_i M' (by omega) (by show j < 10; exact hj)]
    exact (jz _).2.2.1
  have aV := aT_v B 0 n10 (vR B 0) hp01
  have eB10 : ∀ a k, 356 ≤ a → a ≤ 362 → k < 10 → B a k = M' a (10 + k) := fun a k z1 z2 z3 => by rw [c7 a k (by omega) (by omega), ← k10 a k z1 z2 z3, c2 a k (by omega)]
  have eB6 : ∀ a k, 352 ≤ a → a ≤ 355 → k < 6 → B a k = M' a (6 + k) := fun a k z1 z2 z3 => by rw [c7 a k (by omega) (by omega), ← k6 a k z1 z2 z3, c2 a k (by omega)]
  refine ⟨hP1, ⟨⟨0, by omega, ?_, ?_, tbR.zero _ _⟩, ?_, fun k => ?_, fun k => ?_, ?_, ?_⟩, ⟨n6, ?_, ?_, fun j hj => ?_⟩, ⟨n8, ?_, ?_, fun j hj => ?_, fun k => ?_⟩, ⟨?_, ?_, ?_⟩, ⟨n10, ?_, ?_, vg 44 (Or.inl rfl) vk44, ?_, fun j hj => ?_, fun j hj => ?_, fun k hk => ?_, ?_, ?_⟩, ⟨vg 56 (Or.inr rfl) vk56, ?_, fun k => ?_, fun k => ?_, fun k hk => ?_, ?_⟩, ⟨by omega, ?_, c4.1, ?_, ?_, fun j hj => absurd hj (Nat.not_lt_zero _)⟩, ⟨by omega, h9.2.1, ?_, ?_, c4.2.2.1, fun _ => 0, fun i hi => absurd hi (Nat.not_lt_zero _), fun _ _ _ _ => Nat.le_refl _⟩, ⟨?_, Or.inl ?_⟩⟩
  · exact (c1 _ _ (by omega)).trans d0.1
  · rw [c3 1 (by omega), kp_o M' (by omega), hl.1 _ _ (by omega), xu_s]; rfl
  · rw [show I2 349 = I 349 from funext fun k => by rw [c2 349 k (by omega), kp_o M' (by omega), hl.1 _ _ (by omega), xu_ne (by omega), xu_ne (by omega)]]; exact h2.2.1
  · rw [c1 19 k (by omega), c1 20 k (by omega), c1 _ k (by omega), (d2 k).1, (d2 k).2, ht2.2, d3 k]
    exact ⟨(gb k).1, (gb k).2.1, h4.2.2.2.2 k⟩
  · obtain ⟨j1, y1⟩ := kJ 356 k (by omega)
    obtain ⟨j2, y2⟩ := kJ 357 k (by omega)
    obtain ⟨j3, y3⟩ := kJ 361 k (by omega)
    obtain ⟨j4, y4⟩ := kJ 363 k (by omega)
    rw [y1, y2, y3, y4]
    exact ⟨(jz j1).1, (jz j2).2.1, (jz j3).2.2.1, (jz j4).2.2.2⟩
  · rw [c1 _ _ (by omega), d0.2.1, c3 4 (by omega), kp_o M' (by omega)]; exact gf.1
  · rw [c1 _ _ (by omega), d0.2.2.1, c3 5 (by omega), kp_o M' (by omega)]; exact gf.2
  · exact (eT0 3).trans gp.2.1
  · exact (kH 12 (by omega) (by omega)).trans gp.2.2.1
  · have w := gp.2.2.2 j hj
    rw [eT 1 j (by omega), eT 2 j (by omega), eT 3 j (by omega), k6 352 j (by omega) (by omega) (by omega), k6 353 j (by omega) (by omega) (by omega), k6 355 j (by omega) (by omega) (by omega)]
    exact ⟨w.1, w.2.1, w.2.2.1, w.2.2.2.1⟩
  · exact (eT0 7).trans gx.2.1
  · exact (kH 14 (by omega) (by omega)).trans gx.2.2.1
  · have w := gx.2.2.2 j hj
    rw [eT 4 j (by omega), eT 5 j (by omega), eT 6 j (by omega), k8 363 j (by omega) (by omega) (by omega), k8 364 j (by omega) (by omega) (by omega), k8 365 j (by omega) (by omega) (by omega)]
    exact w
  · rw [eT 4 k (by omega)]; exact (gb k).2.2
  · have key : ∀ l, l < 3 → LwOk I2 (34 - t) l := fun l hl => by
      rcases gw.2.2.2.2.2 l hl with ⟨y1, -⟩ | ⟨-, a, b, x, y1, y2, y3, y4, -⟩
      · exact Or.inl ((eT 9 l (by omega)).trans y1)
      · exact Or.inr ⟨a, b, (eT 9 l (by omega)).trans y3, (eT 10 l (by omega)).trans y4, by omega, by have := gw.1; omega⟩
    exact ⟨key 0 (by omega), key 1 (by omega), key 2 (by omega)⟩
  · have key : ∀ l, l < 3 → LwR1 I2 l (Lv I2 (34 - t) l) := fun l hl => by
      rcases gw.2.2.2.2.2 l hl with ⟨y1, y2⟩ | ⟨y0, a, b, x, y1, y2, y3, y4, y5, y6, y7⟩
      · exact lw_0 ((eT 9 l (by omega)).trans y1) ((k3 366 l (by omega) (by omega) hl).trans y2)
      · have q64 := gw.1
        refine lw_R (x := x) ((eT 9 l (by omega)).trans y3) ((eT 10 l (by omega)).trans y4) ((k3 366 l (by omega) (by omega) hl).trans y0) ((k3 367 l (by omega) (by omega) hl).trans y5) ((k3 368 l (by omega) (by omega) hl).trans y6) y1 (by omega) (y7.q.c (fun k z1 z2 => ⟨?_, ?_, ?_, ?_⟩))
        · exact eT 8 k (by omega)
        · exact k64 369 k (by omega) (by omega) (by omega)
        · exact k64 370 k (by omega) (by omega) (by omega)
        · exact k64 371 k (by omega) (by omega) (by omega)
    exact ⟨key 0 (by omega), key 1 (by omega), key 2 (by omega)⟩
  · rw [eT 7 5 (by omega), kH 15 (by omega) (by omega)]; exact gw.2.2.1.trans gw.2.2.2.1.symm
  · exact (eT0 9).trans gd.2.2.1
  · exact (kH 13 (by omega) (by omega)).trans gd.2.2.2.1
  · rw [u2 14 (by omega) (by omega)]; exact go.2.2.2.2.1
  · have w := gp.2.2.2 j hj
    rw [u1 1 j (by omega) (by omega) (b6' 1 j (by omega) (by omega)), u1 2 j (by omega) (by omega) (b6' 2 j (by omega) (by omega)), k6 354 j (by omega) (by omega) (by omega), k6 353 j (by omega) (by omega) (by omega)]
    exact ⟨w.2.2.2.2.1, w.2.2.2.2.2.trans w.2.1⟩
  · have w := gd.2.2.2.2.2.1 j hj
    have bb : ∀ f, (f = 3 ∨ f = 4 ∨ f = 5 ∨ f = 6 ∨ f = 7 ∨ f = 8 ∨ f = 9 ∨ f = 10) → vB I2 44 f j = K' (16 + f) j := fun f hf => u1 f j (by omega) (by omega) (b12' f j hf (by omega))
    rw [bb 3 (by omega), bb 4 (by omega), bb 5 (by omega), bb 6 (by omega), bb 7 (by omega), bb 8 (by omega), bb 9 (by omega), bb 10 (by omega), k10 356 j (by omega) (by omega) (by omega), k10 357 j (by omega) (by omega) (by omega), k10 358 j (by omega) (by omega) (by omega), k10 359 j (by omega) (by omega) (by omega), k10 360 j (by omega) (by omega) (by omega), k10 362 j (by omega) (by omega) (by omega)]
    exact ⟨w.2.1, w.2.2.2.1, w.2.2.2.2.1, w.2.2.2.2.2.2.1, w.2.2.2.2.2.2.2.2.1, w.2.2.2.2.2.2.2.2.2.1, w.2.2.2.2.2.2.2.2.2.2.1, w.2.2.2.2.2.2.2.2.2.2.2.1⟩
  · rw [u1 11 k (by omega) (by omega) (by show k < 8; omega)]; exact go.2.2.2.2.2.2 k (by omega)
  · rw [u2 14 (by omega) (by omega), c2 351 0 (by omega), kp_i M' (by omega) (by decide)]; exact go.2.2.2.1
  · rw [u2 15 (by omega) (by omega)]; exact go.2.2.2.2.2.1
  · rw [c5]
    refine vE.tr ?_ ((vR_w0 C2 _).sy.le n6 (by omega) n8)
    rw [← c5]
    refine ⟨fun k hk => ⟨?_, ?_⟩, fun k hk => ?_, fun k hk => ?_, ?_, ?_, ?_⟩
    · rw [w1 1 k (by omega) (by omega) (b6' 1 k (by omega) (by omega)), (aV.1 k (by omega)).1, eB6 354 k (by omega) (by omega) (by omega)]; exact (gp.2.2.2 k hk).2.2.2.2.1
    · rw [w1 2 k (by omega) (by omega) (b6' 2 k (by omega) (by omega)), (aV.1 k (by omega)).2, eB6 353 k (by omega) (by omega) (by omega)]; exact (gp.2.2.2 k hk).2.2.2.2.2.trans (gp.2.2.2 k hk).2.1
    · have w := gd.2.2.2.2.2.1 k hk
      have bb : ∀ f, (f = 3 ∨ f = 4 ∨ f = 5 ∨ f = 6 ∨ f = 7 ∨ f = 8 ∨ f = 9 ∨ f = 10) → vB I2 56 f k = K' (16 + f) k := fun f hf => w1 f k (by omega) (by omega) (b12' f k hf (by omega))
      obtain ⟨x1, x2, x3, x4, x5, x6⟩ := aV.2.1 k hk
      obtain ⟨x7, x8, x9, x10⟩ := x6 rfl
      rw [bb 3 (by omega), bb 4 (by omega), bb 5 (by omega), bb 6 (by omega), bb 7 (by omega), bb 8 (by omega), bb 9 (by omega), bb 10 (by omega), w2 12 (by omega) (by omega), x1, x2, x3, x4, x5, x7, x8, x9, x10, eB10 356 k (by omega) (by omega) (by omega), eB10 357 k (by omega) (by omega) (by omega), eB10 358 k (by omega) (by omega) (by omega), eB10 359 k (by omega) (by omega) (by omega), eB10 360 k (by omega) (by omega) (by omega), eB10 361 k (by omega) (by omega) (by omega), eB10 362 k (by omega) (by omega) (by omega)]
      exact ⟨w.2.1, w.2.2.2.1, w.2.2.2.2.1, w.2.2.2.2.2.2.1, w.2.2.2.2.2.2.2.2.1, w.2.2.2.2.2.2.2.2.2.1, w.2.2.2.2.2.2.2.2.2.2.1, w.2.2.2.2.2.2.2.2.2.2.2.1, w.2.2.2.2.2.2.2.2.2.2.2.2⟩
    · rw [w1 11 k (by omega) (by omega) (by show k < 8; omega), aV.2.2.1 k (by omega)]; exact go.2.2.2.2.2.2 k (by omega)
    · rw [w2 13 (by omega) (by omega), aV.2.2.2.1]; exact gd.2.1
    · rw [w2 14 (by omega) (by omega), aV.2.2.2.2.1, c7 351 0 (by omega) (by omega), kp_i M' (by omega) (by decide)]; exact go.2.2.2.1
    · rw [w2 15 (by omega) (by omega), aV.2.2.2.2.2.1]; exact go.2.2.2.2.2.1
  · rw [c5]
    by_cases hk : k < 12
    · rw [w0_i C2 _ (a := 379) (by decide) hk]
      show vp_in (aT B 0 nd (vR B 0) 3 k) 6
      by_cases hk2 : k < nd
      · rw [((aV.2.1 k hk2).2.2.2.2.2 rfl).1, eB10 356 k (by omega) (by omega) (by omega)]; exact (jz _).1
      · rw [aT_k B 0 _ (Or.inl rfl) (by omega)]
        show vp_in (B 379 k) 6
        rw [c7 379 k (by omega) (by omega), kp_o M' (by omega), lM 379 k (by omega) (by omega)]; exact h7.2.2.1 k
    · rw [w0_o C2 _ (a := 379) (fun z => hk z.2), c6 379 k (by omega) (by omega), lM 379 k (by omega) (by omega)]; exact h7.2.2.1 k
  · rw [c5]
    by_cases hk : k < 12
    · rw [w0_i C2 _ (a := 380) (by decide) hk]
      show vp_in (aT B 0 nd (vR B 0) 4 k) 6
      by_cases hk2 : k < nd
      · rw [((aV.2.1 k hk2).2.2.2.2.2 rfl).2.1, eB10 357 k (by omega) (by omega) (by omega)]; exact (jz _).2.1
      · rw [aT_k B 0 _ (Or.inr (Or.inl rfl)) (by omega)]
        show vp_in (B 380 k) 6
        rw [c7 380 k (by omega) (by omega), kp_o M' (by omega), lM 380 k (by omega) (by omega)]; exact h7.2.2.2.1 k
    · rw [w0_o C2 _ (a := 380) (fun z => hk z.2), c6 380 k (by omega) (by omega), lM 380 k (by omega) (by omega)]; exact h7.2.2.2.1 k
  · refine ⟨?_, ?_⟩
    · rw [c5, w0_i C2 _ (a := 386) (by decide) hk]
      show aT B 0 nd (vR B 0) 10 k < 0 ∨ vp_in (aT B 0 nd (vR B 0) 10 k) 12
      by_cases hk2 : k < nd
      · rw [(aV.2.1 k hk2).2.2.2.1, eB10 362 k (by omega) (by omega) (by omega), ← (gd.2.2.2.2.2.1 k hk2).2.2.2.2.2.2.2.2.2.2.2.1]
        rcases gd.2.2.2.2.2.2.2 k hk2 with z | ⟨y, z1, z2, z3, z4⟩
        · rw [z]; exact Or.inl (by decide)
        · rw [z3]; exact Or.inr (vp_in_nI (by omega) (by decide))
      · rw [aT_k B 0 _ (Or.inr (Or.inr (Or.inl rfl))) (by omega)]
        show B 386 (12 * 0 + k) < 0 ∨ vp_in (B 386 (12 * 0 + k)) 12
        rw [Nat.mul_zero, Nat.zero_add, c7 386 k (by omega) (by omega), kp_o M' (by omega), lM 386 k (by omega) (by omega)]; exact (h7.2.2.2.2.1 k hk).1
    · rw [c5, w0_i C2 _ (a := 384) (by decide) hk]
      show in0 (aT B 0 nd (vR B 0) 6 k) 0 198
      by_cases hk2 : k < nd
      · rw [(aV.2.1 k hk2).2.1, eB10 359 k (by omega) (by omega) (by omega), ← (gd.2.2.2.2.2.1 k hk2).2.2.2.2.2.2.1]
        obtain ⟨z, z1, z2, z3⟩ := (gd.2.2.2.2.2.1 k hk2).2.2.2.2.2.2.2.1
        exact ⟨z, by omega, by omega, z3⟩
      · rw [aT_k B 0 _ (Or.inr (Or.inr (Or.inr rfl))) (by omega)]
        show in0 (B 384 (12 * 0 + k)) 0 198
        rw [Nat.mul_zero, Nat.zero_add, c7 384 k (by omega) (by omega), kp_o M' (by omega), lM 384 k (by omega) (by omega)]; exact (h7.2.2.2.2.1 k hk).2
  · rw [c5]
    exact Pt_w0 (h7.2.2.2.2.2.c (fun k => (c6 387 k (by omega) (by omega)).trans (lM 387 k (by omega) (by omega)))) _
  · exact (c1 _ _ (by omega)).trans d0.2.2.2.2.2.2.1
  · rw [c1 _ _ (by omega), d0.2.2.2.2.2.2.2, c4.2.1]
  · exact Or.inl ⟨(c1 _ _ (by omega)).trans d0.2.2.2.2.2.2.2, rfl⟩
  · exact (c1 _ _ (by omega)).trans d0.2.2.2.2.1
  · exact (c1 _ _ (by omega)).trans (d0.2.2.2.2.2.1.trans h9.2.2.2.1)
  · rw [c1 _ _ (by omega), d0.2.2.2.1, c4.2.2.2]
  · exact (c1 _ _ (by omega)).trans d0.2.2.2.1
