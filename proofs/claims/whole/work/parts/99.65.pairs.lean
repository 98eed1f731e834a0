/-! twists: what pairs add -/
theorem he_ex (f : Nat → Nat) (S : Nat) : ∀ j, (∃ k, k < j ∧ S.testBit k = true) → ∃ i, i < j ∧ S.testBit i = true ∧ ∀ k, k < j → S.testBit k = true → f k ≤ f i
  | 0, ⟨k, h, _⟩ => absurd h (by omega)
  | j + 1, ⟨k, h1, h2⟩ => by
    by_cases c : ∃ k, k < j ∧ S.testBit k = true
    · obtain ⟨i, i1, i2, i3⟩ := he_ex f S j c
      by_cases d : S.testBit j = true ∧ f i < f j
      · refine ⟨j, by omega, d.1, fun k hk hb => ?_⟩
        by_cases e : k = j
        · rw [e]; exact Nat.le_refl _
        · have := i3 k (by omega) hb; have := d.2; omega
      · refine ⟨i, by omega, i2, fun k hk hb => ?_⟩
        by_cases e : k = j
        · subst e
          exact Classical.byContradiction fun z => d ⟨hb, by omega⟩
        · exact i3 k (by omega) hb
    · have e : k = j := Classical.byContradiction fun z => c ⟨k, by omega, h2⟩
      subst e
      refine ⟨k, by omega, h2, fun q hq hb => ?_⟩
      by_cases x : q = k
      · rw [x]; exact Nat.le_refl _
      · exact absurd ⟨q, by omega, hb⟩ c
theorem isT.ex (f : Nat → Nat) : ∀ c S, ∃ v, isT f c S v
  | 0, S => ⟨0, isT.z f S⟩
  | c + 1, S => by
    by_cases d : ∃ k, k < 12 ∧ S.testBit k = true
    · obtain ⟨i, i1, i2, i3⟩ := he_ex f S 12 d
      obtain ⟨v, hv⟩ := isT.ex f c (nD S (2 ^ i))
      exact ⟨_, hv.s i1 i2 i3⟩
    · have p0 : pcT 0 12 = 0 := by decide
      refine ⟨0, ⟨0, fun k hk => absurd hk (by simp), by omega, ws_none 12 p0⟩, fun X hX _ => ?_⟩
      have : pcT X 12 = 0 := Classical.byContradiction fun z => by
        obtain ⟨k, k1, k2⟩ := pc_some 12 z
        exact d ⟨k, k1, hX k k2⟩
      rw [ws_none 12 this]; exact Nat.le_refl _
theorem ws_or {f : Nat → Nat} {X i : Nat} (hi : i < 12) (xi : X.testBit i = false) : wsN f (X ||| 2 ^ i) 12 = wsN f X 12 + f i := by
  rw [wsN_del (or2_at X i), if_pos hi]
  congr 1
  refine wsN_e 12 (fun k hk => ?_)
  by_cases e : k = i
  · rw [e, nD2_at, xi]
  · rw [nD2_ne e, or2_ne e]
/-- a set may be filled up -/
theorem fill {f : Nat → Nat} {S c : Nat} (hS : S < 2 ^ 12) (hc : c ≤ pcT S 12) : ∀ d X, pcT X 12 + d = c → sbs X S → ∃ Y, sbs Y S ∧ pcT Y 12 = c ∧ wsN f X 12 ≤ wsN f Y 12
  | 0, X, h, hX => ⟨X, hX, by omega, Nat.le_refl _⟩
  | d + 1, X, h, hX => by
    have ne : X ≠ S := fun z => by rw [z] at h; omega
    obtain ⟨i, i1, i2, i3⟩ := sub_ne hS hX ne
    obtain ⟨Y, y1, y2, y3⟩ := fill (f := f) hS hc d (X ||| 2 ^ i) (by rw [pcT_or i3, if_pos i1]; omega) (sbs_or hX i2)
    refine ⟨Y, y1, y2, ?_⟩
    rw [ws_or i1 i3] at y3
    omega
theorem ws_par {f : Nat → Nat} {Y p : Nat} (h : ∀ k, Y.testBit k = true → f k % 2 = p) : ∀ j, wsN f Y j % 2 = (p * pcT Y j) % 2
  | 0 => by rw [wsN, pcT, Nat.mul_zero]
  | j + 1 => by
    have ih := ws_par h j
    rw [wsN, pcT, Nat.mul_add]
    by_cases c : Y.testBit j = true
    · have := h j c
      rw [if_pos c, c]
      show (wsN f Y j + f j) % 2 = (p * pcT Y j + p * 1) % 2
      rw [Nat.mul_one]
      omega
    · have z : Y.testBit j = false := by simpa using c
      rw [if_neg c, z]
      show (wsN f Y j + 0) % 2 = (p * pcT Y j + p * 0) % 2
      rw [Nat.mul_zero]; exact ih
/-- what at most k twists among S add -/
def isG (f : Nat → Nat) (k S g : Nat) : Prop := ∃ v, isT f (2 * min k (pcT S 12 / 2)) S v ∧ g = v / 2
theorem isG.ex (f : Nat → Nat) (k S : Nat) : ∃ g, isG f k S g := by
  obtain ⟨v, hv⟩ := isT.ex f (2 * min k (pcT S 12 / 2)) S
  exact ⟨v / 2, v, hv, rfl⟩
theorem isG.un {f : Nat → Nat} {k S g g' : Nat} (h : isG f k S g) (h' : isG f k S g') : g = g' := by
  obtain ⟨v, hv, rfl⟩ := h
  obtain ⟨w, hw, rfl⟩ := h'
  rw [hv.un hw]
section PG
variable {f : Nat → Nat} {k S s g : Nat}
theorem isG.le (hs : s < 12) (hS : S.testBit s = true) (h : isG f k S g) {g' : Nat} (h' : isG f k (nD S (2 ^ s)) g') : g' ≤ g := by
  obtain ⟨v, hv, rfl⟩ := h
  obtain ⟨w, ⟨⟨X, x1, x2, x3⟩, -⟩, rfl⟩ := h'
  have p := pcT_del hS 12
  rw [if_pos hs] at p
  have := hv.2 X (sbs_tr x1 sbs_d) (by omega)
  omega
theorem isG.le2 (hs : s < 12) (hS : S.testBit s = true) (hk : 1 ≤ k) {t : Nat} (ht : t < 12) (hR : (nD S (2 ^ s)).testBit t = true) {v v' : Nat} (h : isT f (2 * min k (pcT S 12 / 2)) S v) (h' : isT f (2 * min (k - 1) (pcT (nD (nD S (2 ^ s)) (2 ^ t)) 12 / 2)) (nD (nD S (2 ^ s)) (2 ^ t)) v') : v' + f s + f t ≤ v := by
  obtain ⟨⟨X, x1, x2, x3⟩, -⟩ := h'
  have p := pcT_del hS 12
  have p2 := pcT_del hR 12
  rw [if_pos hs] at p
  rw [if_pos ht] at p2
  have xt : X.testBit t = false := by
    by_cases z : X.testBit t = true
    · have := x1 t z; rw [nD2_at] at this; exact absurd this (by decide)
    · simpa using z
  have st : t ≠ s := fun z => by rw [z, nD2_at] at hR; exact absurd hR (by decide)
  have xs : (X ||| 2 ^ t).testBit s = false := by
    rw [or2_ne (Ne.symm st)]
    by_cases z : X.testBit s = true
    · have := sbs_tr x1 sbs_d s z; rw [nD2_at] at this; exact absurd this (by decide)
    · simpa using z
  have b := h.2 (X ||| 2 ^ t ||| 2 ^ s) (sbs_or (sbs_or (sbs_tr (sbs_tr x1 sbs_d) sbs_d) (sbs_d t hR)) hS) (by
    rw [pcT_or xs, if_pos hs, pcT_or xt, if_pos ht]; omega)
  rw [ws_or hs xs, ws_or ht xt] at b
  omega
theorem isG.at (hS12 : S < 2 ^ 12) (hs : s < 12) (hS : S.testBit s = true) (h : isG f k S g) : isG f k (nD S (2 ^ s)) g ∨ (1 ≤ k ∧ ∃ t, t < 12 ∧ (nD S (2 ^ s)).testBit t = true ∧ ∃ g', isG f (k - 1) (nD (nD S (2 ^ s)) (2 ^ t)) g' ∧ g' + (f s + f t) / 2 = g) := by
  obtain ⟨v, hv, rfl⟩ := h
  obtain ⟨⟨X0, a1, a2, a3⟩, -⟩ := id hv
  obtain ⟨X, x1, x2, x3⟩ := fill (f := f) (c := 2 * min k (pcT S 12 / 2)) hS12 (by omega) (2 * min k (pcT S 12 / 2) - pcT X0 12) X0 (by omega) a1
  have xv : wsN f X 12 = v := by have := hv.2 X x1 (by omega); omega
  have p := pcT_del hS 12
  rw [if_pos hs] at p
  by_cases c : X.testBit s = true
  · right
    have px := pcT_del c 12
    rw [if_pos hs] at px
    have wx := wsN_del (f := f) c 12
    rw [if_pos hs] at wx
    have k1 : 1 ≤ k := by omega
    have key : ∀ t, t < 12 → (nD X (2 ^ s)).testBit t = true → ∃ v', isT f (2 * min (k - 1) (pcT (nD (nD S (2 ^ s)) (2 ^ t)) 12 / 2)) (nD (nD S (2 ^ s)) (2 ^ t)) v' ∧ v = v' + f s + f t ∧ wsN f (nD (nD X (2 ^ s)) (2 ^ t)) 12 = v' ∧ pcT (nD (nD X (2 ^ s)) (2 ^ t)) 12 + 2 = pcT X 12 := fun t ht hb => by
      have hR := sbs_del (i := s) x1 t hb
      obtain ⟨v', hv'⟩ := isT.ex f (2 * min (k - 1) (pcT (nD (nD S (2 ^ s)) (2 ^ t)) 12 / 2)) (nD (nD S (2 ^ s)) (2 ^ t))
      have le := isG.le2 hs hS k1 ht hR hv hv'
      have p2 := pcT_del hR 12
      have px2 := pcT_del hb 12
      have wx2 := wsN_del (f := f) hb 12
      rw [if_pos ht] at p2 px2 wx2
      have ge := hv'.2 (nD (nD X (2 ^ s)) (2 ^ t)) (sbs_del (sbs_del x1)) (by omega)
      exact ⟨v', hv', by omega, by omega, by omega⟩
    refine ⟨k1, ?_⟩
    by_cases par : ∃ t, t < 12 ∧ (nD X (2 ^ s)).testBit t = true ∧ f t % 2 = f s % 2
    · obtain ⟨t, t1, t2, t3⟩ := par
      obtain ⟨v', b1, b2, -⟩ := key t t1 t2
      exact ⟨t, t1, sbs_del (i := s) x1 t t2, v' / 2, ⟨v', b1, rfl⟩, by omega⟩
    · obtain ⟨t, t1, t2⟩ := pc_some (X := nD X (2 ^ s)) 12 (by omega)
      obtain ⟨v', b1, b2, b3, b4⟩ := key t t1 t2
      have hp := ws_par (f := f) (Y := nD (nD X (2 ^ s)) (2 ^ t)) (p := 1 - f s % 2) (fun q hq => by
        have hq2 := sbs_d q hq
        have q12 : q < 12 := Classical.byContradiction fun z => by
          have := x1 q (sbs_d q hq2)
          rw [Nat.testBit_lt_two_pow (Nat.lt_of_lt_of_le hS12 (Nat.pow_le_pow_right (by omega) (by omega)))] at this
          exact absurd this (by decide)
        have : ¬ f q % 2 = f s % 2 := fun z => par ⟨q, q12, hq2, z⟩
        omega) 12
      have ev : pcT (nD (nD X (2 ^ s)) (2 ^ t)) 12 % 2 = 0 := by omega
      have v2 : v' % 2 = 0 := by
        rw [b3] at hp
        rw [hp, Nat.mul_mod, ev, Nat.mul_zero]
      exact ⟨t, t1, sbs_del (i := s) x1 t t2, v' / 2, ⟨v', b1, rfl⟩, by omega⟩
  · left
    have c' : X.testBit s = false := by simpa using c
    have xr := sbs_out x1 c'
    have mono := pcT_mono xr 12
    have ec : 2 * min k (pcT (nD S (2 ^ s)) 12 / 2) = 2 * min k (pcT S 12 / 2) := by omega
    exact ⟨v, by rw [ec]; exact ⟨⟨X, xr, by omega, xv⟩, fun Y hY hc => hv.2 Y (sbs_tr hY sbs_d) hc⟩, rfl⟩
end PG
