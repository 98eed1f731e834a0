/-! partner: a step of the program's choice -/
/-- t is a partner of s by which G is still reached -/
def tP (f : Nat → Nat) (R j s G t : Nat) : Prop := R.testBit t = true ∧ ∃ G', isG f (j - 1) (nD R (2 ^ t)) G' ∧ G' + (f s + f t) / 2 = G
theorem sFps_c {g : Nat → Int32} {f : Nat → Nat} {R j s G t : Nat} (hR : R < 2 ^ 12) (hf : wOk g f R) (hs : g s = nI (f s) ∧ f s ≤ 9999) (hj : 1 ≤ j) (hj5 : j ≤ 5) (hG : G < 2 ^ 30) (ht : t < 12) : ((nI R >>> (nI t &&& 31)) &&& 1 = 1 ∧ (g s + g t) / (2 : Int32) + sGain g (nI R &&& ((1 <<< (nI t &&& 31)) ^^^ (-1))) (nI j - 1) = nI G) ↔ tP f R j s G t := by
  have bt := bz_1 (a := R) (k := t) (by omega) (by omega)
  unfold tP
  rw [bt]
  have key : R.testBit t = true → ((g s + g t) / (2 : Int32) + sGain g (nI R &&& ((1 <<< (nI t &&& 31)) ^^^ (-1))) (nI j - 1) = nI G ↔ ∃ G', isG f (j - 1) (nD R (2 ^ t)) G' ∧ G' + (f s + f t) / 2 = G) := fun hb => by
    obtain ⟨G', hG'⟩ := isG.ex f (j - 1) (nD R (2 ^ t))
    have wt := hf t ht hb
    have gg := sGain_g (g := g) (S := nD R (2 ^ t)) (k := j - 1) (Nat.lt_of_le_of_lt (nD_le _ _) hR) (hf.d sbs_d) (by omega) hG'
    have e2 : nI (f s + f t) / 2 = nI ((f s + f t) / 2) := pk_div (d := 2) (by omega) (by omega) (by omega)
    rw [bz_clr ht, nI_pr (by omega), gg.1, hs.1, wt.1, nI_add, e2, nI_add]
    constructor
    · intro z
      have := nI_ij (by have := gg.2; omega) (by omega) z
      exact ⟨G', hG', by omega⟩
    · rintro ⟨G2, z1, z2⟩
      have := z1.un hG'
      rw [show (f s + f t) / 2 + G' = G by omega]
  exact ⟨fun z => ⟨z.1, (key z.1).mp z.2⟩, fun z => ⟨z.1, (key z.1).mpr z.2⟩⟩
theorem sFps_at {g : Nat → Int32} {f : Nat → Nat} {R j s G : Nat} (hR : R < 2 ^ 12) (hf : wOk g f R) (hs : g s = nI (f s) ∧ f s ≤ 9999) (hj : 1 ≤ j) (hj5 : j ≤ 5) (hG : G < 2 ^ 30) {t : Nat} (hp : tP f R j s G t) : ∀ c t0, t0 ≤ t → t < t0 + c → t0 + c ≤ 12 → (∀ q, t0 ≤ q → q < t → ¬ tP f R j s G q) → sFps g s (nI R) (nI j) (nI G) c t0 = nI t
  | 0, t0, h1, h2, _, _ => absurd h2 (by omega)
  | c + 1, t0, h1, h2, h3, h4 => by
    have k := sFps_c hR hf hs hj hj5 hG (t := t0) (by omega)
    rw [sFps]
    by_cases e : t0 = t
    · subst e; rw [if_pos (k.mpr hp)]
    · rw [if_neg (fun z => h4 t0 (Nat.le_refl _) (by omega) (k.mp z))]
      exact sFps_at hR hf hs hj hj5 hG hp c (t0 + 1) (by omega) (by omega) (by omega) (fun q z1 z2 => h4 q (by omega) z2)
theorem sFp_A {g : Nat → Int32} {f : Nat → Nat} {R j s G : Nat} (hR : R < 2 ^ 12) (hf : wOk g f R) (hj5 : j ≤ 5) (h : isG f j R G) : sFp g s (nI R) (nI j) (nI G) = -2 := by
  unfold sFp
  rw [if_pos (sGain_g hR hf (by omega) h).1]
theorem sFp_B {g : Nat → Int32} {f : Nat → Nat} {R j s G t : Nat} (hR : R < 2 ^ 12) (hf : wOk g f R) (hs : g s = nI (f s) ∧ f s ≤ 9999) (hj : 1 ≤ j) (hj5 : j ≤ 5) (hG : G < 2 ^ 30) (h : ¬ isG f j R G) (hp : tP f R j s G t) (hst : s < t) (ht : t < 12) (hn : ∀ q, s < q → q < t → ¬ tP f R j s G q) : sFp g s (nI R) (nI j) (nI G) = nI t := by
  unfold sFp
  obtain ⟨G', hG'⟩ := isG.ex f j R
  have gg := sGain_g (g := g) hR hf (by omega) hG'
  rw [gg.1, if_neg (fun z => h (by
    have := nI_ij (by have := gg.2; omega) (by omega) z
    rw [← this]; exact hG'))]
  exact sFps_at hR hf hs hj hj5 hG hp (11 - s) (s + 1) (by omega) (by omega) (by omega) (fun q z1 z2 => hn q (by omega) z2)
