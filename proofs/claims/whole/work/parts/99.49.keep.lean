/-! keep and back -/
theorem wn_mk {z p : Nat} : nI z + 1000 * nI p = nI (z + 1000 * p) := by
  rw [show (1000 : Int32) = nI 1000 from rfl, pk_mul, nI_add]
theorem wn_d {z p : Nat} (hz : z ≤ 198) (hp : p ≤ 1) : nI (z + 1000 * p) / 1000 = nI p := by
  have := pk_div (a := z + 1000 * p) (d := 1000) (by omega) (by omega) (by omega)
  rw [show (z + 1000 * p) / 1000 = p by omega] at this
  exact this
theorem wn_m {z p : Nat} (hz : z ≤ 198) (hp : p ≤ 1) : nI (z + 1000 * p) - nI (z + 1000 * p) / 1000 * 1000 = nI z := by
  have := pk_rem (a := z + 1000 * p) (d := 1000) (by omega) (by omega) (by omega)
  rw [show (z + 1000 * p) % 1000 = z by omega] at this
  exact this
theorem kR1_v (I V : Nat → Nat → Int32) : ∀ s, s ≤ 12 → (∀ k, k < s → kR1 I V s 402 k = V 3 k ∧ kR1 I V s 402 (12 + k) = V 4 k ∧ kR1 I V s 402 (24 + k) = V 8 k ∧ kR1 I V s 402 (36 + k) = V 7 k ∧ kR1 I V s 402 (48 + k) = V 5 k ∧ kR1 I V s 402 (60 + k) = V 6 k + 1000 * bI (V 12 0) k) ∧ ∀ a k, a ≠ 402 → kR1 I V s a k = I a k
  | 0, _ => ⟨fun k hk => absurd hk (by omega), fun _ _ _ => rfl⟩
  | s + 1, hs => by
    obtain ⟨ih, io⟩ := kR1_v I V s (by omega)
    refine ⟨fun k hk => ?_, fun a k ha => ?_⟩
    · rw [kR1]
      by_cases e : k = s
      · subst e
        refine ⟨?_, ?_, ?_, ?_, ?_, xu_s _ _ _ _⟩
        · rw [xu_ne (by omega), xu_ne (by omega), xu_ne (by omega), xu_ne (by omega), xu_ne (by omega), xu_s]
        · rw [xu_ne (by omega), xu_ne (by omega), xu_ne (by omega), xu_ne (by omega), xu_s]
        · rw [xu_ne (by omega), xu_ne (by omega), xu_ne (by omega), xu_s]
        · rw [xu_ne (by omega), xu_ne (by omega), xu_s]
        · rw [xu_ne (by omega), xu_s]
      · have := ih k (by omega)
        refine ⟨?_, ?_, ?_, ?_, ?_, ?_⟩
        · rw [xu_ne (by omega), xu_ne (by omega), xu_ne (by omega), xu_ne (by omega), xu_ne (by omega), xu_ne (by omega)]; exact this.1
        · rw [xu_ne (by omega), xu_ne (by omega), xu_ne (by omega), xu_ne (by omega), xu_ne (by omega), xu_ne (by omega)]; exact this.2.1
        · rw [xu_ne (by omega), xu_ne (by omega), xu_ne (by omega), xu_ne (by omega), xu_ne (by omega), xu_ne (by omega)]; exact this.2.2.1
        · rw [xu_ne (by omega), xu_ne (by omega), xu_ne (by omega), xu_ne (by omega), xu_ne (by omega), xu_ne (by omega)]; exact this.2.2.2.1
        · rw [xu_ne (by omega), xu_ne (by omega), xu_ne (by omega), xu_ne (by omega), xu_ne (by omega), xu_ne (by omega)]; exact this.2.2.2.2.1
        · rw [xu_ne (by omega), xu_ne (by omega), xu_ne (by omega), xu_ne (by omega), xu_ne (by omega), xu_ne (by omega)]; exact this.2.2.2.2.2
    · rw [kR1, xu_f _ _ ha, xu_f _ _ ha, xu_f _ _ ha, xu_f _ _ ha, xu_f _ _ ha, xu_f _ _ ha]; exact io a k ha
theorem kR2_v (I V : Nat → Nat → Int32) : ∀ c, (∀ k, k < c → kR2 I V c 403 k = V 11 k) ∧ ∀ a k, a ≠ 403 → kR2 I V c a k = I a k
  | 0 => ⟨fun k hk => absurd hk (by omega), fun _ _ _ => rfl⟩
  | c + 1 => by
    obtain ⟨ih, io⟩ := kR2_v I V c
    refine ⟨fun k hk => ?_, fun a k ha => ?_⟩
    · rw [kR2]
      by_cases e : k = c
      · subst e; exact xu_s _ _ _ _
      · rw [xu_ne (by omega)]; exact ih k (by omega)
    · rw [kR2, xu_f _ _ ha]; exact io a k ha
theorem kK_o (I V : Nat → Nat → Int32) {a k : Nat} (h : ¬ (a = 401 ∨ a = 402 ∨ a = 403 ∨ (a = 347 ∧ (k = 85 ∨ k = 89)))) : kKeep I V a k = I a k := by
  unfold kKeep
  rw [xu_ne (by omega), (kR2_v _ V 8).2 a k (by omega), (kR1_v _ V 12 (by omega)).2 a k (by omega), pPut_o (by omega), xu_ne (by omega)]
theorem kK_1 (I V : Nat → Nat → Int32) (j : Nat) : kKeep I V 401 j = pPut (xu I 347 85 1) 401 0 V 401 j := by
  unfold kKeep
  rw [xu_ne (by omega), (kR2_v _ V 8).2 401 j (by omega), (kR1_v _ V 12 (by omega)).2 401 j (by omega)]
theorem kK_2 (I V : Nat → Nat → Int32) (j : Nat) : kKeep I V 402 j = kR1 (pPut (xu I 347 85 1) 401 0 V) V 12 402 j := by
  unfold kKeep
  rw [xu_ne (by omega), (kR2_v _ V 8).2 402 j (by omega)]
theorem kK_3 (I V : Nat → Nat → Int32) {j : Nat} (h : j < 8) : kKeep I V 403 j = V 11 j := by
  unfold kKeep
  rw [xu_ne (by omega), (kR2_v _ V 8).1 j h]
theorem kK_h (I V : Nat → Nat → Int32) : kKeep I V 347 85 = 1 ∧ kKeep I V 347 89 = V 15 0 := by
  unfold kKeep
  refine ⟨?_, xu_s _ _ _ _⟩
  rw [xu_ne (by omega), (kR2_v _ V 8).2 347 85 (by omega), (kR1_v _ V 12 (by omega)).2 347 85 (by omega), pPut_o (by omega), xu_s]
set_option maxHeartbeats 1000000 in
theorem keep_Cl {E : xCl} {ex : Bool} : Cl E ex yX10_keep [.ref 0] yX11_keep [.ref 347] := by
  intro I J P hX N hN
  obtain ⟨t, np, q, n, m, s, kb, u, sn, h⟩ := hX
  obtain ⟨h1, h2, h3, h4, h5, h6, h7, h8, h9, h10⟩ := h
  have ht := tl_c h1.1
  have hp := h7.2.2.2.2.2
  have np6 := h3.1
  have m8 := h4.1
  have n12 := h7.1.1.1
  have vv := h7.2.1
  have cc := k_keep (E := E) (ex := ex) (I := I) (V := vB I 56) (J := J) h1.2.1 h1.1 h1.2.2.1 h1.2.2.2.2.2 0
  have e0 : ∀ a k, ¬ ((68 ≤ a ∧ a ≤ 79) ∨ (a = 0 ∧ k = 9)) → xu (wB I 68 (vB I 56)) 0 9 1 a k = I a k := fun a k z => by
    rw [xu_ne (by omega), wB_o _ _ _ (by omega)]
  have eX : wB (xu (wB I 68 (vB I 56)) 0 9 1) 56 (vB I 56) = xu (wB I 68 (vB I 56)) 0 9 1 := by
    rw [show vB I 56 = vB (xu (wB I 68 (vB I 56)) 0 9 1) 56 from (vB_c (fun a k z1 z2 => e0 a k (by omega))).symm, ← show vB I 56 = vB (xu (wB I 68 (vB I 56)) 0 9 1) 56 from (vB_c (fun a k z1 z2 => e0 a k (by omega))).symm]
    have := wB_vB (xu (wB I 68 (vB I 56)) 0 9 1) 56
    rwa [show vB (xu (wB I 68 (vB I 56)) 0 9 1) 56 = vB I 56 from vB_c (fun a k z1 z2 => e0 a k (by omega))] at this
  rw [wB_vB, eX] at cc
  have hp1 : Pt (xu (wB I 68 (vB I 56)) 0 9 1) := hp.c (fun k => e0 387 k (by omega))
  have pre := preR hp1
  rw [e0 347 52 (by omega), vR_c (fun a k z1 z2 => e0 a k (by omega))] at pre
  have rr := k_rkeep (E := E) (ex := ex) (I := xu (wB I 68 (vB I 56)) 0 9 1) (V := vR I 0) (e := I 347 52) (J := J) (h1.2.1.xb hb68 (t + 1)) rfl 0
  have hK : ∀ a k, ¬ (a = 401 ∨ a = 402 ∨ a = 403 ∨ (a = 347 ∧ (k = 2 ∨ k = 85 ∨ k = 89)) ∨ (68 ≤ a ∧ a ≤ 79) ∨ (a = 0 ∧ k = 9)) → kKeep (xu (xu (wB I 68 (vB I 56)) 0 9 1) 347 2 0) (vR I 0) a k = I a k := fun a k z => by
    rw [kK_o _ _ (by omega), xu_ne (by omega), e0 a k (by omega)]
  have hpK : Pt (kKeep (xu (xu (wB I 68 (vB I 56)) 0 9 1) 347 2 0) (vR I 0)) := hp.c (fun k => hK 387 k (by omega))
  have post := wR0 hpK (I 347 52)
  rw [vR_c (I := I) (fun a k z1 z2 => hK a k (by omega))] at post
  rw [pre, post, ← vv.2.2.2.2.2] at rr
  have e : ∀ a k, ¬ (a = 401 ∨ a = 402 ∨ a = 403 ∨ (a = 347 ∧ (k = 2 ∨ k = 52 ∨ k = 85 ∨ k = 89)) ∨ (68 ≤ a ∧ a ≤ 79) ∨ (a = 0 ∧ k = 9)) → wE (kKeep (xu (xu (wB I 68 (vB I 56)) 0 9 1) 347 2 0) (vR I 0)) (I 347 52) a k = I a k := fun a k z => by
    unfold wE
    rw [xu_ne (by omega), hK a k (by omega)]
  have eE : ∀ a k, ¬ (a = 347 ∧ k = 52) → wE (kKeep (xu (xu (wB I 68 (vB I 56)) 0 9 1) 347 2 0) (vR I 0)) (I 347 52) a k = kKeep (xu (xu (wB I 68 (vB I 56)) 0 9 1) 347 2 0) (vR I 0) a k := fun a k z => xu_ne z
  obtain ⟨p1, p2, p3, -⟩ := pPut_r (xu (xu (xu (wB I 68 (vB I 56)) 0 9 1) 347 2 0) 347 85 1) 401 0 (vR I 0)
  have q1 := (kR1_v (pPut (xu (xu (xu (wB I 68 (vB I 56)) 0 9 1) 347 2 0) 347 85 1) 401 0 (vR I 0)) (vR I 0) 12 (by omega)).1
  have wn : ∀ k, k < 12 → ∃ z p, z ≤ 198 ∧ p ≤ 1 ∧ vR I 0 6 k = nI z ∧ bI (vR I 0 12 0) k = nI p ∧ wE (kKeep (xu (xu (wB I 68 (vB I 56)) 0 9 1) 347 2 0) (vR I 0)) (I 347 52) 402 (60 + k) = nI (z + 1000 * p) := fun k hk => by
    obtain ⟨z, -, z2, z3⟩ := (h7.w (fun _ _ _ _ _ _ => rfl) h7.t12 k hk).2.2.2
    obtain ⟨p, y1, y2⟩ : ∃ p, p ≤ 1 ∧ bI (vR I 0 12 0) k = nI p := by
      rcases bI_01 (vR I 0 12 0) hk with y | y
      · exact ⟨0, by omega, y⟩
      · exact ⟨1, by omega, y⟩
    refine ⟨z, p, z2, y1, z3, y2, ?_⟩
    rw [eE _ _ (by omega), kK_2, (q1 k hk).2.2.2.2.2, z3, y2, wn_mk]
  refine ⟨_, _, _, _, _, _, x_le (by omega) cc, x_le (by omega) rr, t, np, q, n, m, s, kb, u, sn, ⟨h1.1, h1.2.1.xb hb68 _, ?_, ?_, ?_, ?_⟩, h2.c (fun a k z => e a k (by omega)), h3.c (fun a k z => e a k (by omega)), h4.c (fun a k z => e a k (by omega)), h5.c (fun a k z => e a k (by omega)), h6.c (fun a k z => e a k (by omega)) h3.1, h7.c (fun a k z => e a k (by omega)), h8.c (fun a k z => e a k (by omega)), h9.c (fun a k z => e a k (by omega)) (fun b z1 z2 => xu_ne (by omega)), ?_, Or.inr ⟨?_, xu_s _ _ _ _, n, vB I 56, ?_, ?_, fun k hk => ?_, fun k hk => ?_, fun k hk => ?_, ?_, fun k hk => ?_, ?_⟩⟩
  · exact (xu_ne (by omega)).trans h1.2.2.1
  · exact (xu_ne (by omega)).trans h1.2.2.2.1
  · exact (xu_ne (by omega)).trans h1.2.2.2.2.1
  · exact (xu_ne (by omega)).trans h1.2.2.2.2.2
  · rw [eE 347 85 (by omega), (kK_h _ _).1, eE 0 9 (by omega), kK_o _ _ (by omega), xu_ne (by omega), xu_s]
  · rw [eE 0 9 (by omega), kK_o _ _ (by omega), xu_ne (by omega), xu_s]
  · rw [show vB (wE (kKeep (xu (xu (wB I 68 (vB I 56)) 0 9 1) 347 2 0) (vR I 0)) (I 347 52)) 68 = vB (wB I 68 (vB I 56)) 68 from vB_c (fun a k z1 z2 => by rw [eE a k (by omega), kK_o _ _ (by omega), xu_ne (by omega), xu_ne (by omega)])]
    exact vB_wB _ _ _
  · rw [show vB (wE (kKeep (xu (xu (wB I 68 (vB I 56)) 0 9 1) 347 2 0) (vR I 0)) (I 347 52)) 44 = vB I 44 from vB_c (fun a k z1 z2 => e a k (by omega))]
    exact h7.1
  · have z := p1 k (by omega)
    rw [Nat.zero_add] at z
    rw [eE _ _ (by omega), eE _ _ (by omega), kK_1, kK_1, z.1, show 6 + k = 0 + 6 + k by omega, z.2]; exact vv.1 k hk
  · have z := p2 k (by omega)
    have y := q1 k (by omega)
    have w := vv.2.1 k hk
    obtain ⟨z0, p0, a1, a2, a3, a4, a5⟩ := wn k (by omega)
    rw [a5, wn_d a1 a2, ← wn_d a1 a2, wn_m a1 a2, wn_d a1 a2, eE _ _ (by omega), eE _ _ (by omega), eE _ _ (by omega), eE _ _ (by omega), eE _ _ (by omega), eE _ _ (by omega), eE _ _ (by omega), kK_1, kK_1, kK_2, kK_2, kK_2, kK_2, kK_2, show 12 + k = 0 + 12 + k by omega, z.1, show 24 + k = 0 + 24 + k by omega, z.2, y.1, show 0 + 12 + k = 12 + k by omega, y.2.1, show 0 + 24 + k = 24 + k by omega, y.2.2.1, y.2.2.2.1, y.2.2.2.2.1, ← a3, ← a4]
    exact ⟨w.2.2.2.2.2.2.1, w.2.2.2.2.2.2.2.1, w.1, w.2.1, w.2.2.2.2.2.1, w.2.2.2.2.1, w.2.2.1, w.2.2.2.1, w.2.2.2.2.2.2.2.2⟩
  · obtain ⟨z0, p0, a1, a2, a3, a4, a5⟩ := wn k hk
    have w := h7.w (fun _ _ _ _ _ _ => rfl) h7.t12 k hk
    have z := p2 k hk
    have y := q1 k hk
    refine ⟨⟨z0, p0, a1, a2, a5⟩, ?_, ?_, ?_⟩
    · rw [eE _ _ (by omega), kK_2, y.1]; exact w.1
    · rw [eE _ _ (by omega), kK_2, y.2.1]; exact w.2.1
    · rw [eE _ _ (by omega), kK_1, show 24 + k = 0 + 24 + k by omega, z.2]; exact w.2.2.1
  · rw [eE _ _ (by omega), kK_1, show 36 = 0 + 36 from rfl, p3, ← vv.2.2.2.1]; exact h7.1.1.2.1
  · rw [eE _ _ (by omega), kK_3 _ _ (by omega)]; exact vv.2.2.1 k hk
  · rw [eE _ _ (by omega), (kK_h _ _).2]; exact vv.2.2.2.2.2
