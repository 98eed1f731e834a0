/-! bits: sets of strands as numbers -/
theorem nI_bv (a : Nat) : (nI a).toBitVec = BitVec.ofNat 32 a := rfl
theorem bz_or (a b : Nat) : nI a ||| nI b = nI (a ||| b) := by
  apply Int32.toBitVec_inj.mp
  rw [Int32.toBitVec_or, nI_bv, nI_bv, nI_bv, BitVec.ofNat_or]
theorem bz_and (a b : Nat) : nI a &&& nI b = nI (a &&& b) := by
  apply Int32.toBitVec_inj.mp
  rw [Int32.toBitVec_and, nI_bv, nI_bv, nI_bv, BitVec.ofNat_and]
theorem bz_xor (a b : Nat) : nI a ^^^ nI b = nI (a ^^^ b) := by
  apply Int32.toBitVec_inj.mp
  rw [Int32.toBitVec_xor, nI_bv, nI_bv, nI_bv, BitVec.ofNat_xor]
theorem bz_sm : ∀ k : Nat, k < 31 → ((nI k &&& 31).toBitVec.smod 32).toNat = k := by decide
theorem bz_shl : ∀ k : Nat, k < 31 → (1 : Int32) <<< (nI k &&& 31) = nI (2 ^ k) := by decide
theorem bz_inj {a b : Nat} (ha : a < 2 ^ 31) (hb : b < 2 ^ 31) (h : nI a = nI b) : a = b := by
  have := congrArg Int32.toNatClampNeg h
  rwa [nI_clamp ha, nI_clamp hb] at this
theorem bz_toInt {x : Int32} {n : Nat} (hn : n < 2 ^ 31) (h : x.toInt = n) : x = nI n := by
  apply Int32.toInt_inj.mp
  rw [h, nI_toInt hn]
theorem bz_shr {a k : Nat} (ha : a < 2 ^ 31) (hk : k < 31) : nI a >>> (nI k &&& 31) = nI (a >>> k) := by
  have h1 : a >>> k < 2 ^ 31 := Nat.lt_of_le_of_lt (Nat.shiftRight_le a k) ha
  apply bz_toInt h1
  rw [pk_shr _ _ k (bz_sm k hk), nI_toInt ha]
  rfl
theorem bz_bit {a k : Nat} (ha : a < 2 ^ 31) (hk : k < 31) : (nI a >>> (nI k &&& 31)) &&& 1 = nI (a.testBit k).toNat := by
  rw [bz_shr ha hk, show (1 : Int32) = nI 1 from rfl, bz_and]
  congr 1
  rw [Nat.testBit, Nat.and_comm]
  rcases Nat.mod_two_eq_zero_or_one (a >>> k) with h | h
  · rw [Nat.and_comm, Nat.and_one_is_mod, h]; rfl
  · rw [Nat.and_comm, Nat.and_one_is_mod, h]; rfl
theorem bz_1 {a k : Nat} (ha : a < 2 ^ 31) (hk : k < 31) : ((nI a >>> (nI k &&& 31)) &&& 1 = 1) ↔ a.testBit k = true := by
  rw [bz_bit ha hk]
  cases a.testBit k <;> decide
theorem bz_0 {a k : Nat} (ha : a < 2 ^ 31) (hk : k < 31) : ((nI a >>> (nI k &&& 31)) &&& 1 = 0) ↔ a.testBit k = false := by
  rw [bz_bit ha hk]
  cases a.testBit k <;> decide
/-- a without the bits of b -/
def nD (a b : Nat) : Nat := a ^^^ (a &&& b)
theorem nD_bit (a b k : Nat) : (nD a b).testBit k = (a.testBit k && !b.testBit k) := by
  unfold nD
  rw [Nat.testBit_xor, Nat.testBit_and]
  cases a.testBit k <;> cases b.testBit k <;> rfl
theorem nD_le (a b : Nat) : nD a b ≤ a := by
  have h : nD a b = a &&& nD a b := by
    apply Nat.eq_of_testBit_eq
    intro i
    rw [Nat.testBit_and, nD_bit]
    cases a.testBit i <;> simp
  rw [h]
  exact Nat.and_le_left
theorem bz_dif (a b : Nat) : nI a &&& (nI b ^^^ (-1)) = nI (nD a b) := by
  unfold nD
  rw [← bz_xor, ← bz_and]
  apply Int32.toBitVec_inj.mp
  simp only [Int32.toBitVec_and, Int32.toBitVec_xor, nI_bv]
  apply BitVec.eq_of_getLsbD_eq
  intro i hi
  simp only [BitVec.getLsbD_and, BitVec.getLsbD_xor]
  have : (Int32.toBitVec (-1)).getLsbD i = true := by
    rw [show Int32.toBitVec (-1) = BitVec.allOnes 32 from by decide, BitVec.getLsbD_allOnes]
    simp [hi]
  rw [this]
  cases (BitVec.ofNat 32 a).getLsbD i <;> cases (BitVec.ofNat 32 b).getLsbD i <;> rfl
theorem nD_0 (a b : Nat) : nD a b = 0 ↔ ∀ k, a.testBit k = true → b.testBit k = true := by
  constructor
  · intro h k hk
    have := nD_bit a b k
    rw [h, Nat.zero_testBit, hk] at this
    cases hb : b.testBit k
    · rw [hb] at this; exact absurd this (by decide)
    · rfl
  · intro h
    apply Nat.eq_of_testBit_eq
    intro i
    rw [nD_bit, Nat.zero_testBit]
    cases ha : a.testBit i
    · rfl
    · rw [h i ha]; rfl
theorem pow31 {n : Nat} (h : n < 31) : 2 ^ n < 2 ^ 31 := Nat.pow_lt_pow_right (by decide) h
theorem or_lt {a b n : Nat} (ha : a < 2 ^ n) (hb : b < 2 ^ n) : a ||| b < 2 ^ n := Nat.or_lt_two_pow ha hb
theorem bit_lt {a n k : Nat} (ha : a < 2 ^ n) (h : a.testBit k = true) : k < n := by
  apply Classical.byContradiction
  intro q
  have h2 : a < 2 ^ k := Nat.lt_of_lt_of_le ha (Nat.pow_le_pow_right (by decide) (by omega))
  rw [Nat.testBit_lt_two_pow h2] at h
  exact absurd h (by decide)
theorem bit_2 (k i : Nat) : (2 ^ k).testBit i = decide (k = i) := Nat.testBit_two_pow
