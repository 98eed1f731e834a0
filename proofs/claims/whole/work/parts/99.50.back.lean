/-! back -/
theorem bR1_v (W : Nat → Nat → Int32) (R : Nat → Int32) (hq : ∀ k, k < 12 → R (60 + k) / 1000 = 0 ∨ R (60 + k) / 1000 = 1) : ∀ s, s ≤ 12 → (∀ k, k < s → bR1 W R s 3 k = R k ∧ bR1 W R s 4 k = R (12 + k) ∧ bR1 W R s 8 k = R (24 + k) ∧ bR1 W R s 7 k = R (36 + k) ∧ bR1 W R s 5 k = R (48 + k) ∧ bR1 W R s 6 k = R (60 + k) - R (60 + k) / 1000 * 1000 ∧ bI (bR1 W R s 12 0) k = R (60 + k) / 1000) ∧ ∀ f k, (f ≤ 2 ∨ 9 ≤ f) → f ≠ 12 → bR1 W R s f k = W f k
  | 0, _ => ⟨fun k hk => absurd hk (by omega), fun _ _ _ _ => rfl⟩
  | s + 1, hs => by
    obtain ⟨ih, io⟩ := bR1_v W R hq s (by omega)
    have e12 : bR1 W R (s + 1) 12 0 = setB (bR1 W R s 12 0) s (R (60 + s) / 1000) := by
      rw [bR1]; unfold bS1
      show xu _ 12 0 _ 12 0 = _
      rw [xu_s]
      congr 1
    have ef : ∀ f k, f ≠ 12 → bR1 W R (s + 1) f k = xu (xu (xu (xu (xu (xu (bR1 W R s) 3 s (R s)) 4 s (R (12 + s))) 8 s (R (24 + s))) 7 s (R (36 + s))) 5 s (R (48 + s))) 6 s (R (60 + s) - R (60 + s) / 1000 * 1000) f k := fun f k hf => by
      rw [bR1]; unfold bS1
      exact xu_f _ _ hf
    refine ⟨fun k hk => ?_, fun f k h1 h2 => ?_⟩
    · rw [ef 3 k (by decide), ef 4 k (by decide), ef 8 k (by decide), ef 7 k (by decide), ef 5 k (by decide), ef 6 k (by decide), e12, bI_set _ (by omega) (by omega) (hq s (by omega))]
      by_cases e : k = s
      · subst e
        rw [if_pos rfl]
        refine ⟨?_, ?_, ?_, ?_, ?_, xu_s _ _ _ _, rfl⟩ <;> simp [xu]
      · rw [if_neg e]
        have := ih k (by omega)
        rw [← this.1, ← this.2.1, ← this.2.2.1, ← this.2.2.2.1, ← this.2.2.2.2.1, ← this.2.2.2.2.2.2]
        refine ⟨?_, ?_, ?_, ?_, ?_, ?_, rfl⟩
        · rw [xu_ne (by omega), xu_ne (by omega), xu_ne (by omega), xu_ne (by omega), xu_ne (by omega), xu_ne (by omega)]
        · rw [xu_ne (by omega), xu_ne (by omega), xu_ne (by omega), xu_ne (by omega), xu_ne (by omega), xu_ne (by omega)]
        · rw [xu_ne (by omega), xu_ne (by omega), xu_ne (by omega), xu_ne (by omega), xu_ne (by omega), xu_ne (by omega)]
        · rw [xu_ne (by omega), xu_ne (by omega), xu_ne (by omega), xu_ne (by omega), xu_ne (by omega), xu_ne (by omega)]
        · rw [xu_ne (by omega), xu_ne (by omega), xu_ne (by omega), xu_ne (by omega), xu_ne (by omega), xu_ne (by omega)]
        · rw [xu_ne (by omega), xu_ne (by omega), xu_ne (by omega), xu_ne (by omega), xu_ne (by omega), xu_ne (by omega), this.2.2.2.2.2.2]
          exact this.2.2.2.2.2.1
    · rw [ef f k h2, xu_ne (by omega), xu_ne (by omega), xu_ne (by omega), xu_ne (by omega), xu_ne (by omega), xu_ne (by omega)]; exact io f k h1 h2
theorem bR2_v (W : Nat → Nat → Int32) (R : Nat → Int32) : ∀ c, (∀ k, k < c → bR2 W R c 11 k = R k) ∧ ∀ f k, f ≠ 11 → bR2 W R c f k = W f k
  | 0 => ⟨fun k hk => absurd hk (by omega), fun _ _ _ => rfl⟩
  | c + 1 => by
    obtain ⟨ih, io⟩ := bR2_v W R c
    refine ⟨fun k hk => ?_, fun f k hf => ?_⟩
    · rw [bR2]
      by_cases e : k = c
      · subst e; exact xu_s _ _ _ _
      · rw [xu_ne (by omega)]; exact ih k (by omega)
    · rw [bR2, xu_f _ _ hf]; exact io f k hf
set_option maxHeartbeats 1000000 in
theorem back_Cl {E : xCl} {ex : Bool} : Cl E ex yX10_back [.ref 0] yX11_back [.ref 347] := by
  intro I J P hX N hN
  obtain ⟨t, np, q, n, m, s, kb, u, sn, h⟩ := hX
  have h1 := h.1
  have h3 := h.2.2.1
  have h4 := h.2.2.2.1
  have h7 := h.2.2.2.2.2.2.1
  have h9 := h.2.2.2.2.2.2.2.2.1
  have h10 := h.2.2.2.2.2.2.2.2.2
  have hp := h7.2.2.2.2.2
  have np6 := h3.1
  have m8 := h4.1
  rcases h10.2 with c | ⟨c, cP, ni, Vi, w3, x1, x2, x3, x4, x5, x6, x7⟩
  · have cc := k_back_n (E := E) (ex := ex) (I := I) (V := vB I 56) (J := J) (P := P) c 0
    rw [wB_vB] at cc
    have rr := k_rback_n (E := E) (ex := ex) (I := I) (V := vR I 0) (e := I 347 52) (J := J) h1.2.1 rfl ((xu_ne (by omega)).trans (h10.1.symm.trans c)) 0
    rw [preR hp, postR hp] at rr
    exact Cl.ro h (x_le (by omega) cc) (x_le (by omega) rr)
  · have cc := k_back (E := E) (ex := ex) (I := I) (V := vB I 56) (J := J) h1.2.1 h1.1 h1.2.2.1 h1.2.2.2.2.2 c cP 0
    rw [wB_vB, wB_ext (xu I 0 13 0) 56 w3.1 w3.2, w3.2 15 (by omega) (by omega), x7] at cc
    have e0 : ∀ a k, ¬ (a = 0 ∧ k = 13) → xu I 0 13 0 a k = I a k := fun a k z => xu_ne z
    have e1 : ∀ a k, ¬ ((a = 0 ∧ k = 13) ∨ (56 ≤ a ∧ a ≤ 67)) → wB (xu I 0 13 0) 56 Vi a k = I a k := fun a k z => by
      rw [wB_o _ _ _ (by omega), e0 a k (by omega)]
    have hp1 : Pt (wB (xu I 0 13 0) 56 Vi) := hp.c (fun k => e1 387 k (by omega))
    have pre := preR hp1
    rw [e1 347 52 (by omega), vR_c (fun a k z1 z2 => e1 a k (by omega))] at pre
    have wq : ∀ k, k < 12 → I 402 (60 + k) / 1000 = 0 ∨ I 402 (60 + k) / 1000 = 1 := fun k hk => by
      obtain ⟨z, p, z1, z2, z3⟩ := (x4 k hk).1
      rw [z3, wn_d z1 z2]
      rcases (show p = 0 ∨ p = 1 by omega) with rfl | rfl
      · exact Or.inl rfl
      · exact Or.inr rfl
    have i0 : ∀ a k, 347 ≤ a → ¬ (a = 347 ∧ k = 2) → xu (wB (xu I 0 13 0) 56 Vi) 347 2 0 a k = I a k := fun a k z1 z2 => (xu_ne z2).trans (e1 a k (by omega))
    have rr := k_rback (E := E) (ex := ex) (I := wB (xu I 0 13 0) 56 Vi) (V := vR I 0) (e := I 347 52) (J := J) h1.2.1 rfl (by rw [i0 347 85 (by omega) (by omega), ← h10.1, c]; decide) (fun k hk => by rw [i0 402 _ (by omega) (by omega)]; exact wq k hk) 0
    have eB : bBack (vR I 0) (xu (wB (xu I 0 13 0) 56 Vi) 347 2 0) = bBack (vR I 0) I := by
      unfold bBack
      rw [i0 347 89 (by omega) (by omega), show xu (wB (xu I 0 13 0) 56 Vi) 347 2 0 401 = I 401 from funext fun k => i0 401 k (by omega) (by omega), show xu (wB (xu I 0 13 0) 56 Vi) 347 2 0 402 = I 402 from funext fun k => i0 402 k (by omega) (by omega), show xu (wB (xu I 0 13 0) 56 Vi) 347 2 0 403 = I 403 from funext fun k => i0 403 k (by omega) (by omega)]
    rw [pre, eB, i0 347 89 (by omega) (by omega)] at rr
    obtain ⟨t1, t2, t3, t4⟩ := tTake_v (vR I 0) (I 401) 0
    obtain ⟨r1, r2⟩ := bR1_v (tTake (vR I 0) (I 401) 0) (I 402) wq 12 (by omega)
    obtain ⟨s1, s2⟩ := bR2_v (bR1 (tTake (vR I 0) (I 401) 0) (I 402) 12) (I 403) 8
    have bf : ∀ f k, f ≠ 15 → f ≠ 11 → bBack (vR I 0) I f k = bR1 (tTake (vR I 0) (I 401) 0) (I 402) 12 f k := fun f k z1 z2 => by
      unfold bBack; rw [xu_f _ _ z1]; exact s2 f k z2
    have bg : ∀ f k, (f ≤ 2 ∨ 9 ≤ f) → f ≠ 12 → f ≠ 15 → f ≠ 11 → bBack (vR I 0) I f k = tTake (vR I 0) (I 401) 0 f k := fun f k z1 z2 z3 z4 => (bf f k z3 z4).trans (r2 f k z1 z2)
    have vv := h7.2.1
    have n12 := x1.1.1
    have hE : vE np ni m Vi (bBack (vR I 0) I) := by
      refine ⟨fun k hk => ?_, fun k hk => ?_, fun k hk => ?_, ?_, ?_, ?_⟩
      · have z := t1 k (by omega)
        rw [Nat.zero_add] at z
        rw [bg 1 k (by omega) (by omega) (by omega) (by omega), bg 2 k (by omega) (by omega) (by omega) (by omega), z.1, z.2]; exact x2 k hk
      · have z := t2 k (by omega)
        have y := r1 k (by omega)
        have w := x3 k hk
        rw [bf 3 k (by omega) (by omega), bf 4 k (by omega) (by omega), bf 5 k (by omega) (by omega), bf 6 k (by omega) (by omega), bf 7 k (by omega) (by omega), bf 8 k (by omega) (by omega), bg 9 k (by omega) (by omega) (by omega) (by omega), bg 10 k (by omega) (by omega) (by omega) (by omega), bf 12 0 (by omega) (by omega), y.1, y.2.1, y.2.2.1, y.2.2.2.1, y.2.2.2.2.1, y.2.2.2.2.2.1, y.2.2.2.2.2.2, z.1, z.2, show 0 + 12 + k = 12 + k by omega, show 0 + 24 + k = 24 + k by omega]
        exact ⟨w.2.2.1, w.2.2.2.1, w.2.2.2.2.2.2.1, w.2.2.2.2.2.2.2.1, w.2.2.2.2.2.1, w.2.2.2.2.1, w.1, w.2.1, w.2.2.2.2.2.2.2.2⟩
      · have : bBack (vR I 0) I 11 k = I 403 k := by
          unfold bBack; rw [xu_f _ _ (by decide)]; exact s1 k (by omega)
        rw [this]; exact x6 k hk
      · rw [bg 13 0 (by omega) (by omega) (by omega) (by omega), t3, show 0 + 36 = 36 from rfl, x5]; exact x1.1.2.1
      · rw [bg 14 0 (by omega) (by omega) (by omega) (by omega), t4 14 0 (by decide) (by decide) (by decide) (by decide) (by decide), x1.2.2.2.2.2.2.2.1, ← h7.1.2.2.2.2.2.2.2.1]; exact vv.2.2.2.2.1
      · have : bBack (vR I 0) I 15 0 = I 347 89 := by unfold bBack; exact xu_s _ _ _ _
        rw [this]; exact x7
    obtain ⟨zn, v56⟩ := h7.lay (C1 := xu I 0 13 0) (C2 := wE (xu (xu (wB (xu I 0 13 0) 56 Vi) 347 2 0) 347 83 0) (I 347 52)) h3.1 h4.1 (fun a k z1 z2 => e0 a k (by omega)) (fun a k z => by
      unfold wE; rw [xu_f _ _ z, xu_f _ _ z, xu_f _ _ z]) (fun a k z1 z2 => e0 a k (by omega)) x1 hE (fun k hk => by
      have w := x4 k hk
      have y := r1 k hk
      obtain ⟨z, p, z1, z2, z3⟩ := w.1
      rw [bf 3 k (by omega) (by omega), bf 4 k (by omega) (by omega), bg 10 k (by omega) (by omega) (by omega) (by omega), bf 6 k (by omega) (by omega), y.1, y.2.1, y.2.2.2.2.2.1, (t2 k hk).2, show 0 + 24 + k = 24 + k by omega, z3, wn_m z1 z2]
      exact ⟨w.2.1, w.2.2.1, w.2.2.2, z, by omega, z1, rfl⟩)
    generalize eI2 : wR (wE (xu (xu (wB (xu I 0 13 0) 56 Vi) 347 2 0) 347 83 0) (I 347 52)) 0 (bBack (vR I 0) I) = I2 at zn v56 rr
    have e2 : ∀ a k, ¬ (376 ≤ a ∧ a ≤ 390) → ¬ (a = 347 ∧ (k = 2 ∨ k = 52 ∨ k = 83)) → I2 a k = wB (xu I 0 13 0) 56 Vi a k := fun a k z1 z2 => by
      rw [← eI2, w0_o _ _ (fun y => z1 y.1)]
      unfold wE
      rw [xu_ne (by omega), xu_ne (by omega), xu_ne (by omega)]
    have e : ∀ a k, ¬ ((56 ≤ a ∧ a ≤ 67) ∨ (a = 0 ∧ k = 13) ∨ (376 ≤ a ∧ a ≤ 390) ∨ (a = 347 ∧ (k = 2 ∨ k = 52 ∨ k = 83))) → I2 a k = I a k := fun a k z => (e2 a k (by omega) (by omega)).trans (e1 a k (by omega))
    refine ⟨_, _, _, _, _, _, x_le (by omega) cc, x_le (by omega) rr, t, np, q, ni, m, s, kb, 0, sn, h.lay (fun a k z => e a k (by omega)) zn ⟨by omega, h9.2.1, ?_, ?_, ?_, fun _ => 0, fun i hi => absurd hi (by omega), fun i j z1 z2 => Nat.le_refl _⟩⟩
    · rw [e2 0 13 (by omega) (by omega), wB_o _ _ _ (by omega)]; exact xu_s _ _ _ _
    · rw [e 0 12 (by omega)]; exact h9.2.2.2.1
    · rw [← eI2, w0_o _ _ (fun y => absurd y.1.1 (by omega))]
      unfold wE
      rw [xu_ne (by omega)]; exact xu_s _ _ _ _
