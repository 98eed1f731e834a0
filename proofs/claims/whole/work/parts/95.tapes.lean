/-! the two tapes -/
theorem cTp_at (T : Nat → Int32) (n : Nat) (x : Int32) (k : Nat) : ∀ j, cTp T n x j k = if n ≤ k ∧ k < n + j then cBy x (k - n) else T k := by
  intro j
  induction j with
  | zero => rw [if_neg (by omega)]; rfl
  | succ j ih =>
    rw [cTp, up]
    by_cases h : k = n + j
    · rw [if_pos h, if_pos (by omega), h, Nat.add_sub_cancel_left]
    · rw [if_neg h, ih]
      by_cases h2 : n ≤ k ∧ k < n + j
      · rw [if_pos h2, if_pos (by omega)]
      · rw [if_neg h2, if_neg (by omega)]
theorem rTf_at (T : Nat → Int32) (n : Nat) (a b c e f : Int32) (k : Nat) : ∀ j, rTf T n a b c e f j k = if n ≤ k ∧ k < n + j then rBy a b c e f (k - n) else T k := by
  intro j
  induction j with
  | zero => rw [if_neg (by omega)]; rfl
  | succ j ih =>
    rw [rTf, up]
    by_cases h : k = n + j
    · rw [if_pos h, if_pos (by omega), h, Nat.add_sub_cancel_left]
    · rw [if_neg h, ih]
      by_cases h2 : n ≤ k ∧ k < n + j
      · rw [if_pos h2, if_pos (by omega)]
      · rw [if_neg h2, if_neg (by omega)]
theorem cTf_at (T : Nat → Int32) (n : Nat) (a b c e f : Int32) (k : Nat) : cTf T n a b c e f k = if k < n ∨ n + 20 ≤ k then T k else if k < n + 4 then cBy a (k - n) else if k < n + 8 then cBy b (k - (n + 4)) else if k < n + 12 then cBy c (k - (n + 8)) else if k < n + 16 then cBy e (k - (n + 12)) else cBy f (k - (n + 16)) := by
  rw [cTf, cTp_at, cTp_at, cTp_at, cTp_at, cTp_at]
  by_cases h0 : k < n ∨ n + 20 ≤ k
  · rw [if_pos h0, if_neg (by omega), if_neg (by omega), if_neg (by omega), if_neg (by omega), if_neg (by omega)]
  · rw [if_neg h0]
    by_cases h1 : k < n + 4
    · rw [if_pos h1, if_neg (by omega), if_neg (by omega), if_neg (by omega), if_neg (by omega), if_pos (by omega)]
    · rw [if_neg h1]
      by_cases h2 : k < n + 8
      · rw [if_pos h2, if_neg (by omega), if_neg (by omega), if_neg (by omega), if_pos (by omega)]
      · rw [if_neg h2]
        by_cases h3 : k < n + 12
        · rw [if_pos h3, if_neg (by omega), if_neg (by omega), if_pos (by omega)]
        · rw [if_neg h3]
          by_cases h4 : k < n + 16
          · rw [if_pos h4, if_neg (by omega), if_pos (by omega)]
          · rw [if_neg h4, if_pos (by omega)]
theorem m4 : ∀ i, i < 20 → nI i - nI i / 4 * 4 = nI (i % 4) := by decide +kernel
theorem cBy_255 (x : Int32) (j : Nat) : cBy x j &&& 255 = (x >>> ((24 - 8 * nI j) &&& 31)) &&& 255 := nar_255 _
theorem rBy_at (a b c e f : Int32) {i : Nat} (h : i < 20) : rBy a b c e f i = cBy (if i < 4 then a else if i < 8 then b else if i < 12 then c else if i < 16 then e else f) (i % 4) &&& 255 := by
  rw [cBy_255, rBy, m4 i h]
  have l : ∀ q : Nat, q < 2 ^ 31 → (nI i < nI q ↔ i < q) := fun q hq => nI_ltI (by omega) hq
  simp only [show nI i < 4 ↔ i < 4 from l 4 (by decide), show nI i < 8 ↔ i < 8 from l 8 (by decide), show nI i < 12 ↔ i < 12 from l 12 (by decide), show nI i < 16 ↔ i < 16 from l 16 (by decide)]
/-- the tapes: the reference keeps the bytes without a sign -/
def tpR (T T' : Nat → Int32) (n : Nat) : Prop := ∀ k, k < n → T' k = T k &&& 255
theorem tpR.feed {T T' : Nat → Int32} {n : Nat} (h : tpR T T' n) (a b c e f : Int32) : tpR (cTf T n a b c e f) (rTf T' n a b c e f 20) (n + 20) := by
  intro k hk
  rw [rTf_at, cTf_at]
  by_cases h0 : k < n
  · rw [if_neg (by omega), if_pos (Or.inl h0)]; exact h k h0
  · obtain ⟨i, rfl⟩ : ∃ i, k = n + i := ⟨k - n, by omega⟩
    have hi : i < 20 := by omega
    rw [if_pos (by omega), if_neg (by omega), Nat.add_sub_cancel_left, rBy_at _ _ _ _ _ hi]
    by_cases h1 : i < 4
    · rw [if_pos h1, if_pos (show n + i < n + 4 by omega), show i % 4 = i by omega]
    · rw [if_neg h1, if_neg (show ¬ n + i < n + 4 by omega)]
      by_cases h2 : i < 8
      · rw [if_pos h2, if_pos (show n + i < n + 8 by omega), show i % 4 = n + i - (n + 4) by omega]
      · rw [if_neg h2, if_neg (show ¬ n + i < n + 8 by omega)]
        by_cases h3 : i < 12
        · rw [if_pos h3, if_pos (show n + i < n + 12 by omega), show i % 4 = n + i - (n + 8) by omega]
        · rw [if_neg h3, if_neg (show ¬ n + i < n + 12 by omega)]
          by_cases h4 : i < 16
          · rw [if_pos h4, if_pos (show n + i < n + 16 by omega), show i % 4 = n + i - (n + 12) by omega]
          · rw [if_neg h4, if_neg (show ¬ n + i < n + 16 by omega), show i % 4 = n + i - (n + 16) by omega]
theorem tpR.cut {T T' : Nat → Int32} {n m : Nat} (h : tpR T T' n) (hm : m ≤ n) : tpR T T' m := fun k hk => h k (by omega)
