/-! the reference's bridge b (0: now, 1: the tried one) by a view, as the class's; the rows of who owes, whom, tied and due are shared -/
def rf (k : Nat) : Nat := [1, 2, 13, 3, 4, 8, 7, 5, 6, 9, 10, 12, 11, 15, 14].getD k 0
def rq (k : Nat) : Nat := [6, 6, 1, 12, 12, 12, 12, 12, 12, 12, 12, 12, 8, 1, 1].getD k 0
def ro (k b : Nat) : Nat := if 3 ≤ k ∧ k ≤ 6 then 0 else rq k * b
def bI (x : Int32) (k : Nat) : Int32 := (x >>> (nI k &&& 31)) &&& 1
def wR (I : Nat → Nat → Int32) (b : Nat) (V : Nat → Nat → Int32) : Nat → Nat → Int32 := fun a k => if (376 ≤ a ∧ a ≤ 390) ∧ (ro (a - 376) b ≤ k ∧ k < ro (a - 376) b + rq (a - 376)) then (if a = 387 then bI (V 12 0) (k - ro (a - 376) b) else V (rf (a - 376)) (k - ro (a - 376) b)) else I a k
theorem wR_o (I : Nat → Nat → Int32) (b : Nat) (V : Nat → Nat → Int32) {a : Nat} (h : a < 376 ∨ 390 < a) (k : Nat) : wR I b V a k = I a k := by
  simp only [wR]
  rw [if_neg (fun z => by omega)]
theorem wR_a (I : Nat → Nat → Int32) (b : Nat) (V : Nat → Nat → Int32) {j : Nat} (hj : j < 15) (h : j ≠ 11) {k : Nat} (hk : k < rq j) : wR I b V (376 + j) (ro j b + k) = V (rf j) k := by
  simp only [wR]
  rw [show 376 + j - 376 = j by omega, if_pos ⟨by omega, by omega⟩, if_neg (by omega), show ro j b + k - ro j b = k by omega]
theorem wR_p (I : Nat → Nat → Int32) (b : Nat) (V : Nat → Nat → Int32) {k : Nat} (hk : k < 12) : wR I b V 387 (12 * b + k) = bI (V 12 0) k := by
  have e1 : ro (387 - 376) b = 12 * b := rfl
  have e2 : rq (387 - 376) = 12 := rfl
  simp only [wR]
  rw [if_pos ⟨by omega, by omega⟩, if_pos trivial, e1, show 12 * b + k - 12 * b = k by omega]
theorem rf_inj : ∀ k, k < 15 → ∀ j, j < 15 → rf k = rf j → k = j := by decide
theorem rf_12 : ∀ k, k < 15 → k ≠ 11 → rf k ≠ 12 := by decide
theorem wR_x (I : Nat → Nat → Int32) (b : Nat) (V : Nat → Nat → Int32) {j : Nat} (hj : j < 15) (h : j ≠ 11) {k : Nat} (hk : k < rq j) (v : Int32) : xu (wR I b V) (376 + j) (ro j b + k) v = wR I b (xu V (rf j) k v) := by
  funext a' k'
  simp only [wR, xu]
  by_cases h1 : (376 ≤ a' ∧ a' ≤ 390) ∧ (ro (a' - 376) b ≤ k' ∧ k' < ro (a' - 376) b + rq (a' - 376))
  · rw [if_pos h1, if_pos h1]
    by_cases h2 : a' = 387
    · rw [if_neg (fun z => h (by omega)), if_pos h2, if_pos h2, if_neg (fun z => rf_12 j hj h z.1.symm)]
    · rw [if_neg h2, if_neg h2]
      by_cases h3 : a' = 376 + j ∧ k' = ro j b + k
      · rw [if_pos h3, h3.1, h3.2, show 376 + j - 376 = j by omega, if_pos ⟨rfl, by omega⟩]
      · rw [if_neg h3, if_neg]
        rintro ⟨z1, z2⟩
        have z3 := rf_inj (a' - 376) (by omega) j hj z1
        rw [z3] at h1 z2
        exact h3 ⟨by omega, by omega⟩
  · rw [if_neg h1, if_neg h1, if_neg]
    rintro ⟨z1, z2⟩
    apply h1
    rw [z1, show 376 + j - 376 = j by omega]
    exact ⟨by omega, by omega⟩
theorem wR_wR (I : Nat → Nat → Int32) (b : Nat) (V W : Nat → Nat → Int32) : wR (wR I b V) b W = wR I b W := by
  funext a k
  simp only [wR]
  split <;> rfl
theorem wR_xo (I : Nat → Nat → Int32) (b : Nat) (V : Nat → Nat → Int32) {a : Nat} (h : a < 376 ∨ 390 < a) (k : Nat) (v : Int32) : xu (wR I b V) a k v = wR (xu I a k v) b V := by
  funext a' k'
  simp only [wR, xu]
  by_cases h1 : (376 ≤ a' ∧ a' ≤ 390) ∧ (ro (a' - 376) b ≤ k' ∧ k' < ro (a' - 376) b + rq (a' - 376))
  · rw [if_pos h1, if_pos h1, if_neg (fun z => by omega)]
  · rw [if_neg h1, if_neg h1]
theorem vin_of {x : Int32} {n : Nat} (h : vp_in x n) (hn : n < 2 ^ 31) : ∃ q, q < n ∧ x = nI q := by
  rw [vp_in_iff] at h
  refine ⟨x.toInt.toNat, by omega, bz_toInt (by omega) (by omega)⟩
theorem ix6 {b : Nat} (hb : b < 2) {x : Int32} (hx : vp_in x 6) : vp_in (6 * nI b + x) 12 := by
  obtain ⟨q, hq, rfl⟩ := vin_of hx (by decide)
  rw [show (6 : Int32) = nI 6 from rfl, pk_mul, nI_add]
  exact vp_in_nI (by omega) (by omega)
theorem cx6 {b : Nat} (hb : b < 2) {x : Int32} (hx : vp_in x 6) : (6 * nI b + x).toNatClampNeg = 6 * b + x.toNatClampNeg := by
  obtain ⟨q, hq, rfl⟩ := vin_of hx (by decide)
  rw [show (6 : Int32) = nI 6 from rfl, pk_mul, nI_add, nI_clamp (by omega), nI_clamp (by omega)]
theorem ix12 {b : Nat} (hb : b < 2) {x : Int32} (hx : vp_in x 12) : vp_in (12 * nI b + x) 24 := by
  obtain ⟨q, hq, rfl⟩ := vin_of hx (by decide)
  rw [show (12 : Int32) = nI 12 from rfl, pk_mul, nI_add]
  exact vp_in_nI (by omega) (by omega)
theorem cx12 {b : Nat} (hb : b < 2) {x : Int32} (hx : vp_in x 12) : (12 * nI b + x).toNatClampNeg = 12 * b + x.toNatClampNeg := by
  obtain ⟨q, hq, rfl⟩ := vin_of hx (by decide)
  rw [show (12 : Int32) = nI 12 from rfl, pk_mul, nI_add, nI_clamp (by omega), nI_clamp (by omega)]
theorem ix8 {b : Nat} (hb : b < 2) {x : Int32} (hx : vp_in x 8) : vp_in (8 * nI b + x) 16 := by
  obtain ⟨q, hq, rfl⟩ := vin_of hx (by decide)
  rw [show (8 : Int32) = nI 8 from rfl, pk_mul, nI_add]
  exact vp_in_nI (by omega) (by omega)
theorem cx8 {b : Nat} (hb : b < 2) {x : Int32} (hx : vp_in x 8) : (8 * nI b + x).toNatClampNeg = 8 * b + x.toNatClampNeg := by
  obtain ⟨q, hq, rfl⟩ := vin_of hx (by decide)
  rw [show (8 : Int32) = nI 8 from rfl, pk_mul, nI_add, nI_clamp (by omega), nI_clamp (by omega)]
theorem ix2 {b : Nat} (hb : b < 2) : vp_in (nI b) 2 := vp_in_nI hb (by decide)
theorem cx2 {b : Nat} (hb : b < 2) : (nI b).toNatClampNeg = b := nI_clamp (by omega)
theorem rR1 (I V : Nat → Nat → Int32) {b : Nat} (hb : b < 2) {x : Int32} (hx : vp_in x 6) : wR I b V 376 (6 * nI b + x).toNatClampNeg = V 1 x.toNatClampNeg := by rw [cx6 hb hx]; exact wR_a I b V (j := 0) (by decide) (by decide) (vlt hx)
theorem rW1 (I V : Nat → Nat → Int32) {b : Nat} (hb : b < 2) {x : Int32} (hx : vp_in x 6) (v : Int32) : xu (wR I b V) 376 (6 * nI b + x).toNatClampNeg v = wR I b (xu V 1 x.toNatClampNeg v) := by rw [cx6 hb hx]; exact wR_x I b V (j := 0) (by decide) (by decide) (vlt hx) v
theorem rR2 (I V : Nat → Nat → Int32) {b : Nat} (hb : b < 2) {x : Int32} (hx : vp_in x 6) : wR I b V 377 (6 * nI b + x).toNatClampNeg = V 2 x.toNatClampNeg := by rw [cx6 hb hx]; exact wR_a I b V (j := 1) (by decide) (by decide) (vlt hx)
theorem rW2 (I V : Nat → Nat → Int32) {b : Nat} (hb : b < 2) {x : Int32} (hx : vp_in x 6) (v : Int32) : xu (wR I b V) 377 (6 * nI b + x).toNatClampNeg v = wR I b (xu V 2 x.toNatClampNeg v) := by rw [cx6 hb hx]; exact wR_x I b V (j := 1) (by decide) (by decide) (vlt hx) v
theorem rR13 (I V : Nat → Nat → Int32) {b : Nat} (hb : b < 2) : wR I b V 378 (nI b).toNatClampNeg = V 13 0 := by rw [cx2 hb]; have := wR_a I b V (j := 2) (by decide) (by decide) (k := 0) (by decide); rwa [show ro 2 b + 0 = b from Nat.one_mul b] at this
theorem rW13 (I V : Nat → Nat → Int32) {b : Nat} (hb : b < 2) (v : Int32) : xu (wR I b V) 378 (nI b).toNatClampNeg v = wR I b (xu V 13 0 v) := by rw [cx2 hb]; have := wR_x I b V (j := 2) (by decide) (by decide) (k := 0) (by decide) v; rwa [show ro 2 b + 0 = b from Nat.one_mul b] at this
theorem rR3 (I V : Nat → Nat → Int32) {b : Nat} {x : Int32} (hx : vp_in x 12) : wR I b V 379 x.toNatClampNeg = V 3 x.toNatClampNeg := by have := wR_a I b V (j := 3) (by decide) (by decide) (k := x.toNatClampNeg) (vlt hx); rwa [show ro 3 b + x.toNatClampNeg = x.toNatClampNeg from Nat.zero_add _] at this
theorem rW3 (I V : Nat → Nat → Int32) {b : Nat} {x : Int32} (hx : vp_in x 12) (v : Int32) : xu (wR I b V) 379 x.toNatClampNeg v = wR I b (xu V 3 x.toNatClampNeg v) := by have := wR_x I b V (j := 3) (by decide) (by decide) (k := x.toNatClampNeg) (vlt hx) v; rwa [show ro 3 b + x.toNatClampNeg = x.toNatClampNeg from Nat.zero_add _] at this
theorem rR4 (I V : Nat → Nat → Int32) {b : Nat} {x : Int32} (hx : vp_in x 12) : wR I b V 380 x.toNatClampNeg = V 4 x.toNatClampNeg := by have := wR_a I b V (j := 4) (by decide) (by decide) (k := x.toNatClampNeg) (vlt hx); rwa [show ro 4 b + x.toNatClampNeg = x.toNatClampNeg from Nat.zero_add _] at this
theorem rW4 (I V : Nat → Nat → Int32) {b : Nat} {x : Int32} (hx : vp_in x 12) (v : Int32) : xu (wR I b V) 380 x.toNatClampNeg v = wR I b (xu V 4 x.toNatClampNeg v) := by have := wR_x I b V (j := 4) (by decide) (by decide) (k := x.toNatClampNeg) (vlt hx) v; rwa [show ro 4 b + x.toNatClampNeg = x.toNatClampNeg from Nat.zero_add _] at this
theorem rR8 (I V : Nat → Nat → Int32) {b : Nat} {x : Int32} (hx : vp_in x 12) : wR I b V 381 x.toNatClampNeg = V 8 x.toNatClampNeg := by have := wR_a I b V (j := 5) (by decide) (by decide) (k := x.toNatClampNeg) (vlt hx); rwa [show ro 5 b + x.toNatClampNeg = x.toNatClampNeg from Nat.zero_add _] at this
theorem rW8 (I V : Nat → Nat → Int32) {b : Nat} {x : Int32} (hx : vp_in x 12) (v : Int32) : xu (wR I b V) 381 x.toNatClampNeg v = wR I b (xu V 8 x.toNatClampNeg v) := by have := wR_x I b V (j := 5) (by decide) (by decide) (k := x.toNatClampNeg) (vlt hx) v; rwa [show ro 5 b + x.toNatClampNeg = x.toNatClampNeg from Nat.zero_add _] at this
theorem rR7 (I V : Nat → Nat → Int32) {b : Nat} {x : Int32} (hx : vp_in x 12) : wR I b V 382 x.toNatClampNeg = V 7 x.toNatClampNeg := by have := wR_a I b V (j := 6) (by decide) (by decide) (k := x.toNatClampNeg) (vlt hx); rwa [show ro 6 b + x.toNatClampNeg = x.toNatClampNeg from Nat.zero_add _] at this
theorem rW7 (I V : Nat → Nat → Int32) {b : Nat} {x : Int32} (hx : vp_in x 12) (v : Int32) : xu (wR I b V) 382 x.toNatClampNeg v = wR I b (xu V 7 x.toNatClampNeg v) := by have := wR_x I b V (j := 6) (by decide) (by decide) (k := x.toNatClampNeg) (vlt hx) v; rwa [show ro 6 b + x.toNatClampNeg = x.toNatClampNeg from Nat.zero_add _] at this
theorem rR5 (I V : Nat → Nat → Int32) {b : Nat} (hb : b < 2) {x : Int32} (hx : vp_in x 12) : wR I b V 383 (12 * nI b + x).toNatClampNeg = V 5 x.toNatClampNeg := by rw [cx12 hb hx]; exact wR_a I b V (j := 7) (by decide) (by decide) (vlt hx)
theorem rW5 (I V : Nat → Nat → Int32) {b : Nat} (hb : b < 2) {x : Int32} (hx : vp_in x 12) (v : Int32) : xu (wR I b V) 383 (12 * nI b + x).toNatClampNeg v = wR I b (xu V 5 x.toNatClampNeg v) := by rw [cx12 hb hx]; exact wR_x I b V (j := 7) (by decide) (by decide) (vlt hx) v
theorem rR6 (I V : Nat → Nat → Int32) {b : Nat} (hb : b < 2) {x : Int32} (hx : vp_in x 12) : wR I b V 384 (12 * nI b + x).toNatClampNeg = V 6 x.toNatClampNeg := by rw [cx12 hb hx]; exact wR_a I b V (j := 8) (by decide) (by decide) (vlt hx)
theorem rW6 (I V : Nat → Nat → Int32) {b : Nat} (hb : b < 2) {x : Int32} (hx : vp_in x 12) (v : Int32) : xu (wR I b V) 384 (12 * nI b + x).toNatClampNeg v = wR I b (xu V 6 x.toNatClampNeg v) := by rw [cx12 hb hx]; exact wR_x I b V (j := 8) (by decide) (by decide) (vlt hx) v
theorem rR9 (I V : Nat → Nat → Int32) {b : Nat} (hb : b < 2) {x : Int32} (hx : vp_in x 12) : wR I b V 385 (12 * nI b + x).toNatClampNeg = V 9 x.toNatClampNeg := by rw [cx12 hb hx]; exact wR_a I b V (j := 9) (by decide) (by decide) (vlt hx)
theorem rW9 (I V : Nat → Nat → Int32) {b : Nat} (hb : b < 2) {x : Int32} (hx : vp_in x 12) (v : Int32) : xu (wR I b V) 385 (12 * nI b + x).toNatClampNeg v = wR I b (xu V 9 x.toNatClampNeg v) := by rw [cx12 hb hx]; exact wR_x I b V (j := 9) (by decide) (by decide) (vlt hx) v
theorem rR10 (I V : Nat → Nat → Int32) {b : Nat} (hb : b < 2) {x : Int32} (hx : vp_in x 12) : wR I b V 386 (12 * nI b + x).toNatClampNeg = V 10 x.toNatClampNeg := by rw [cx12 hb hx]; exact wR_a I b V (j := 10) (by decide) (by decide) (vlt hx)
theorem rW10 (I V : Nat → Nat → Int32) {b : Nat} (hb : b < 2) {x : Int32} (hx : vp_in x 12) (v : Int32) : xu (wR I b V) 386 (12 * nI b + x).toNatClampNeg v = wR I b (xu V 10 x.toNatClampNeg v) := by rw [cx12 hb hx]; exact wR_x I b V (j := 10) (by decide) (by decide) (vlt hx) v
theorem rR11 (I V : Nat → Nat → Int32) {b : Nat} (hb : b < 2) {x : Int32} (hx : vp_in x 8) : wR I b V 388 (8 * nI b + x).toNatClampNeg = V 11 x.toNatClampNeg := by rw [cx8 hb hx]; exact wR_a I b V (j := 12) (by decide) (by decide) (vlt hx)
theorem rW11 (I V : Nat → Nat → Int32) {b : Nat} (hb : b < 2) {x : Int32} (hx : vp_in x 8) (v : Int32) : xu (wR I b V) 388 (8 * nI b + x).toNatClampNeg v = wR I b (xu V 11 x.toNatClampNeg v) := by rw [cx8 hb hx]; exact wR_x I b V (j := 12) (by decide) (by decide) (vlt hx) v
theorem rR15 (I V : Nat → Nat → Int32) {b : Nat} (hb : b < 2) : wR I b V 389 (nI b).toNatClampNeg = V 15 0 := by rw [cx2 hb]; have := wR_a I b V (j := 13) (by decide) (by decide) (k := 0) (by decide); rwa [show ro 13 b + 0 = b from Nat.one_mul b] at this
theorem rW15 (I V : Nat → Nat → Int32) {b : Nat} (hb : b < 2) (v : Int32) : xu (wR I b V) 389 (nI b).toNatClampNeg v = wR I b (xu V 15 0 v) := by rw [cx2 hb]; have := wR_x I b V (j := 13) (by decide) (by decide) (k := 0) (by decide) v; rwa [show ro 13 b + 0 = b from Nat.one_mul b] at this
theorem rR14 (I V : Nat → Nat → Int32) {b : Nat} (hb : b < 2) : wR I b V 390 (nI b).toNatClampNeg = V 14 0 := by rw [cx2 hb]; have := wR_a I b V (j := 14) (by decide) (by decide) (k := 0) (by decide); rwa [show ro 14 b + 0 = b from Nat.one_mul b] at this
theorem rW14 (I V : Nat → Nat → Int32) {b : Nat} (hb : b < 2) (v : Int32) : xu (wR I b V) 390 (nI b).toNatClampNeg v = wR I b (xu V 14 0 v) := by rw [cx2 hb]; have := wR_x I b V (j := 14) (by decide) (by decide) (k := 0) (by decide) v; rwa [show ro 14 b + 0 = b from Nat.one_mul b] at this
theorem rR12 (I V : Nat → Nat → Int32) {b : Nat} (hb : b < 2) {x : Int32} (hx : vp_in x 12) : wR I b V 387 (12 * nI b + x).toNatClampNeg = bI (V 12 0) x.toNatClampNeg := by rw [cx12 hb hx]; exact wR_p I b V (vlt hx)
