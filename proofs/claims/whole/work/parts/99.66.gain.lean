/-! twists: the program's gain is what pairs add -/
theorem ws_le {f : Nat → Nat} {X : Nat} : ∀ j, (∀ k, k < j → X.testBit k = true → f k ≤ 9999) → wsN f X j ≤ 9999 * j
  | 0, _ => Nat.le_refl _
  | j + 1, h => by
    have ih := ws_le (f := f) (X := X) j (fun k hk => h k (by omega))
    rw [wsN]
    by_cases c : X.testBit j = true
    · have := h j (by omega) c
      rw [if_pos c]; omega
    · rw [if_neg c]; omega
theorem isT.b {f : Nat → Nat} {c S v : Nat} (h : isT f c S v) (hf : ∀ k, k < 12 → S.testBit k = true → f k ≤ 9999) : v ≤ 119988 := by
  obtain ⟨⟨X, x1, -, x3⟩, -⟩ := h
  have := ws_le (f := f) (X := X) 12 (fun k hk hb => hf k hk (x1 k hb))
  omega
/-- weights of a set: small numbers -/
def wOk (g : Nat → Int32) (f : Nat → Nat) (S : Nat) : Prop := ∀ i, i < 12 → S.testBit i = true → g i = nI (f i) ∧ f i ≤ 9999
theorem wOk.d {g : Nat → Int32} {f : Nat → Nat} {S T : Nat} (h : wOk g f S) (hT : sbs T S) : wOk g f T := fun i hi hb => h i hi (hT i hb)
theorem sHe_v {g : Nat → Int32} {f : Nat → Nat} {S : Nat} (hS : S < 2 ^ 12) (hf : wOk g f S) : ∀ j, j ≤ 12 → (sHe g (nI S) j = -1 ∧ ∀ k, k < j → ¬ S.testBit k = true) ∨ ∃ i, i < j ∧ S.testBit i = true ∧ sHe g (nI S) j = nI i ∧ ∀ k, k < j → S.testBit k = true → f k ≤ f i
  | 0, _ => Or.inl ⟨rfl, fun k hk => absurd hk (by omega)⟩
  | j + 1, hj => by
    have bj := bz_1 (a := S) (k := j) (by omega) (by omega)
    rw [sHe]
    by_cases c : S.testBit j = true
    · have wj := hf j (by omega) c
      rcases sHe_v hS hf j (by omega) with ⟨z1, z2⟩ | ⟨i, i1, i2, i3, i4⟩
      · rw [if_pos ⟨bj.mpr c, Or.inl z1⟩]
        refine Or.inr ⟨j, by omega, c, rfl, fun k hk hb => ?_⟩
        by_cases e : k = j
        · rw [e]; exact Nat.le_refl _
        · exact absurd hb (z2 k (by omega))
      · have wi := hf i (by omega) i2
        rw [i3, nI_clamp (by omega), wi.1, wj.1]
        have lt := nI_lti (a := f i) (b := f j) (by omega) (by omega)
        by_cases d : f i < f j
        · rw [if_pos ⟨bj.mpr c, Or.inr (lt.mpr d)⟩]
          refine Or.inr ⟨j, by omega, c, rfl, fun k hk hb => ?_⟩
          by_cases e : k = j
          · rw [e]; exact Nat.le_refl _
          · have := i4 k (by omega) hb; omega
        · rw [if_neg (fun y => y.2.elim (nI_nm1 (q := i) (by omega)) (fun w => d (lt.mp w)))]
          refine Or.inr ⟨i, by omega, i2, rfl, fun k hk hb => ?_⟩
          by_cases e : k = j
          · rw [e]; omega
          · exact i4 k (by omega) hb
    · rw [if_neg (fun y => c (bj.mp y.1))]
      rcases sHe_v hS hf j (by omega) with ⟨z1, z2⟩ | ⟨i, i1, i2, i3, i4⟩
      · refine Or.inl ⟨z1, fun k hk => ?_⟩
        by_cases e : k = j
        · rw [e]; exact c
        · exact z2 k (by omega)
      · refine Or.inr ⟨i, by omega, i2, i3, fun k hk hb => ?_⟩
        by_cases e : k = j
        · rw [e] at hb; exact absurd hb c
        · exact i4 k (by omega) hb
theorem sGa_v {g : Nat → Int32} {f : Nat → Nat} : ∀ c S s0 v, S < 2 ^ 12 → wOk g f S → c ≤ pcT S 12 → isT f c S v → s0 + v < 2 ^ 30 → sGa g c (nI S) (nI s0) = nI ((s0 + v) / 2)
  | 0, S, s0, v, _, _, _, hv, hb => by
    have := hv.un (isT.z f S)
    subst this
    rw [sGa]
    exact pk_div (d := 2) (by omega) (by omega) (by omega)
  | c + 1, S, s0, v, hS, hf, hc, hv, hb => by
    obtain ⟨k, k1, k2⟩ := pc_some (X := S) 12 (by omega)
    rcases sHe_v hS hf 12 (by omega) with ⟨z1, z2⟩ | ⟨i, i1, i2, i3, i4⟩
    · exact absurd k2 (z2 k k1)
    · have p := pcT_del i2 12
      rw [if_pos i1] at p
      obtain ⟨v', hv'⟩ := isT.ex f c (nD S (2 ^ i))
      have e := hv.un (hv'.s i1 i2 i4)
      have wi := hf i i1 i2
      rw [sGa, i3, if_neg (nI_nm1 (q := i) (by omega)), bz_clr i1, nI_clamp (by omega), wi.1, nI_add, sGa_v c (nD S (2 ^ i)) (s0 + f i) v' (Nat.lt_of_le_of_lt (nD_le _ _) hS) (hf.d sbs_d) (by omega) hv' (by omega)]
      congr 2
      omega
theorem sGain_g {g : Nat → Int32} {f : Nat → Nat} {S k G : Nat} (hS : S < 2 ^ 12) (hf : wOk g f S) (hk : k < 2 ^ 31) (h : isG f k S G) : sGain g (nI S) (nI k) = nI G ∧ G ≤ 59994 := by
  obtain ⟨v, hv, rfl⟩ := h
  have b := hv.b (fun i hi hb => (hf i hi hb).2)
  have pl := pcT_le S 12
  have ep : sPs (nI S) (nI k) = nI (2 * min k (pcT S 12 / 2)) := by
    unfold sPs
    have e2 : nI (pcT S 12) / 2 = nI (pcT S 12 / 2) := pk_div (d := 2) (by omega) (by omega) (by omega)
    rw [bC_pc hS, e2, show (2 : Int32) = nI 2 from rfl]
    by_cases c : pcT S 12 / 2 < k
    · rw [if_pos ((nI_lti (by omega) hk).mpr c), pk_mul, Nat.min_eq_right (by omega)]
    · rw [if_neg (fun z => c ((nI_lti (by omega) hk).mp z)), pk_mul, Nat.min_eq_left (by omega)]
  unfold sGain
  rw [ep, nI_clamp (by omega), show (0 : Int32) = nI 0 from rfl, sGa_v _ S 0 v hS hf (by omega) hv (by omega), Nat.zero_add]
  exact ⟨rfl, by omega⟩
