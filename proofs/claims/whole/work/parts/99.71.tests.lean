/-! partner: both tests say the same -/
section PT
variable {V : Nat → Nat → Int32} {a M : Nat → Int32} {f : Nat → Nat} {n k p0 Th : Nat}
theorem tst_A (hn : n ≤ 12) (hp : p0 ≤ 999) (ha : ∀ i, i < n → a i = nI (f i) ∧ f i ≤ 9999 ∧ (¬ V 9 i = 0 → f i = 0)) (hT : ∀ S j, S < 2 ^ n → j ≤ k → ∀ G, isG f j (S &&& Th) G → M (6 * S + j) = nI (p0 + wsN f S 12 + G)) {S s j G : Nat} (hS : S < 2 ^ n) (hs : S.testBit s = true) (hj : j ≤ k) (hG : isG f j (S &&& Th) G) : M (6 * nD S (2 ^ s) + j) + a s = M (6 * S + j) ↔ isG f j (nD S (2 ^ s) &&& Th) G := by
  have sn : s < n := bit_lt hS hs
  have le := nD_le S (2 ^ s)
  have as := ha s sn
  have w := wsN_del (f := f) hs 12
  rw [if_pos (by omega)] at w
  have bnd : ∀ (X i G' : Nat), X < 2 ^ n → isG f i (X &&& Th) G' → G' ≤ 59994 := fun X i G' hX h => by
    obtain ⟨v, hv, rfl⟩ := h
    have := hv.b (fun q hq hb => by
      rw [Nat.testBit_and] at hb
      have : X.testBit q = true := by cases z : X.testBit q <;> simp_all
      exact (ha q (bit_lt hX this)).2.1)
    omega
  have wb := ws_le (f := f) (X := S) 12 (fun q hq hb => (ha q (bit_lt hS hb)).2.1)
  obtain ⟨GR, hGR⟩ := isG.ex f j (nD S (2 ^ s) &&& Th)
  have b1 := bnd S j G hS hG
  have b2 := bnd _ j GR (by omega) hGR
  rw [hT _ j (by omega) hj GR hGR, hT S j hS hj G hG, as.1, nI_add]
  constructor
  · intro z
    have := nI_ij (by omega) (by omega) z
    rw [show G = GR by omega]; exact hGR
  · intro z
    have := z.un hGR
    rw [show p0 + wsN f (nD S (2 ^ s)) 12 + GR + f s = p0 + wsN f S 12 + G by omega]
theorem tst_B (hn : n ≤ 12) (hp : p0 ≤ 999) (ha : ∀ i, i < n → a i = nI (f i) ∧ f i ≤ 9999 ∧ (¬ V 9 i = 0 → f i = 0)) (hTh : ∀ i, i < n → (Th.testBit i = true ↔ V 9 i = 0)) (hT : ∀ S j, S < 2 ^ n → j ≤ k → ∀ G, isG f j (S &&& Th) G → M (6 * S + j) = nI (p0 + wsN f S 12 + G)) {S s j G t : Nat} (hS : S < 2 ^ n) (hs : S.testBit s = true) (hj : j ≤ k) (hG : isG f j (S &&& Th) G) : tTw V a M (nD S (2 ^ s)) j s t (M (6 * S + j)) ↔ tP f (nD S (2 ^ s) &&& Th) j s G t := by
  have sn : s < n := bit_lt hS hs
  have le := nD_le S (2 ^ s)
  have as := ha s sn
  have w := wsN_del (f := f) hs 12
  rw [if_pos (by omega)] at w
  have bnd : ∀ (X i G' : Nat), X < 2 ^ n → isG f i (X &&& Th) G' → G' ≤ 59994 := fun X i G' hX h => by
    obtain ⟨v, hv, rfl⟩ := h
    have := hv.b (fun q hq hb => by
      rw [Nat.testBit_and] at hb
      have : X.testBit q = true := by cases z : X.testBit q <;> simp_all
      exact (ha q (bit_lt hX this)).2.1)
    omega
  have wb := ws_le (f := f) (X := S) 12 (fun q hq hb => (ha q (bit_lt hS hb)).2.1)
  have b1 := bnd S j G hS hG
  have key : (nD S (2 ^ s)).testBit t = true → (tOp a M (nD S (2 ^ s)) j s t = M (6 * S + j) ↔ ∃ G', isG f (j - 1) (nD (nD S (2 ^ s) &&& Th) (2 ^ t)) G' ∧ G' + (f s + f t) / 2 = G) := fun hb => by
    have tn : t < n := bit_lt (show nD S (2 ^ s) < 2 ^ n by omega) hb
    have at' := ha t tn
    have wR := wsN_del (f := f) hb 12
    rw [if_pos (by omega)] at wR
    have le2 := nD_le (nD S (2 ^ s)) (2 ^ t)
    rw [and_del]
    obtain ⟨G', hG'⟩ := isG.ex f (j - 1) (nD (nD S (2 ^ s)) (2 ^ t) &&& Th)
    have b2 := bnd _ (j - 1) G' (by omega) hG'
    have e2 : nI (f s + f t) / 2 = nI ((f s + f t) / 2) := pk_div (d := 2) (by omega) (by omega) (by omega)
    unfold tOp
    rw [hT _ (j - 1) (by omega) (by omega) G' hG', hT S j hS hj G hG, as.1, at'.1, nI_add, e2, nI_add, nI_add]
    constructor
    · intro z
      have := nI_ij (by omega) (by omega) z
      exact ⟨G', hG', by omega⟩
    · rintro ⟨G2, z1, z2⟩
      have := z1.un hG'
      rw [show f s + f t + (f s + f t) / 2 + (p0 + wsN f (nD (nD S (2 ^ s)) (2 ^ t)) 12 + G') = p0 + wsN f S 12 + G by omega]
  unfold tTw tP
  constructor
  · rintro ⟨z1, z2, z3⟩
    have tn : t < n := bit_lt (show nD S (2 ^ s) < 2 ^ n by omega) z1
    exact ⟨by rw [Nat.testBit_and, z1, (hTh t tn).mpr z2]; rfl, (key z1).mp z3⟩
  · rintro ⟨z1, z3⟩
    rw [Nat.testBit_and] at z1
    have y1 : (nD S (2 ^ s)).testBit t = true := by cases z : (nD S (2 ^ s)).testBit t <;> simp_all
    have y2 : Th.testBit t = true := by cases z : Th.testBit t <;> simp_all
    have tn : t < n := bit_lt (show nD S (2 ^ s) < 2 ^ n by omega) y1
    exact ⟨y1, (hTh t tn).mp y2, (key y1).mpr z3⟩
end PT
