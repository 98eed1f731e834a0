/-! the reference's bridges 0 and 1 by fixed places -/
theorem mw6 : (6 : Int32) * nI 1 = 6 := by decide
theorem mz6 : (6 : Int32) * nI 0 = 0 := by decide
theorem iz6 {x : Int32} (hx : vp_in x 6) : vp_in x 12 := by rw [vp_in_iff] at hx ⊢; omega
theorem io6 {x : Int32} (hx : vp_in x 6) : vp_in (6 + x) 12 := by have := ix6 (b := 1) (by decide) hx; rwa [mw6] at this
theorem mw12 : (12 : Int32) * nI 1 = 12 := by decide
theorem mz12 : (12 : Int32) * nI 0 = 0 := by decide
theorem iz12 {x : Int32} (hx : vp_in x 12) : vp_in x 24 := by rw [vp_in_iff] at hx ⊢; omega
theorem io12 {x : Int32} (hx : vp_in x 12) : vp_in (12 + x) 24 := by have := ix12 (b := 1) (by decide) hx; rwa [mw12] at this
theorem mw8 : (8 : Int32) * nI 1 = 8 := by decide
theorem mz8 : (8 : Int32) * nI 0 = 0 := by decide
theorem iz8 {x : Int32} (hx : vp_in x 8) : vp_in x 16 := by rw [vp_in_iff] at hx ⊢; omega
theorem io8 {x : Int32} (hx : vp_in x 8) : vp_in (8 + x) 16 := by have := ix8 (b := 1) (by decide) hx; rwa [mw8] at this
theorem ix2_0 : vp_in (0 : Int32) 2 := vp_in_iff.mpr (by decide)
theorem ix2_1 : vp_in (1 : Int32) 2 := vp_in_iff.mpr (by decide)
theorem z32 (x : Int32) : 0 + x = x := by simp
theorem rZ1 (I V : Nat → Nat → Int32) {x : Int32} (hx : vp_in x 6) : wR I 0 V 376 x.toNatClampNeg = V 1 x.toNatClampNeg := by have := rR1 I V (b := 0) (by decide) hx; rwa [mz6, z32] at this
theorem rO1 (I V : Nat → Nat → Int32) {x : Int32} (hx : vp_in x 6) : wR I 1 V 376 (6 + x).toNatClampNeg = V 1 x.toNatClampNeg := by have := rR1 I V (b := 1) (by decide) hx; rwa [mw6] at this
theorem rY1 (I V : Nat → Nat → Int32) {x : Int32} (hx : vp_in x 6) (v : Int32) : xu (wR I 0 V) 376 x.toNatClampNeg v = wR I 0 (xu V 1 x.toNatClampNeg v) := by have := rW1 I V (b := 0) (by decide) hx v; rwa [mz6, z32] at this
theorem rP1 (I V : Nat → Nat → Int32) {x : Int32} (hx : vp_in x 6) (v : Int32) : xu (wR I 1 V) 376 (6 + x).toNatClampNeg v = wR I 1 (xu V 1 x.toNatClampNeg v) := by have := rW1 I V (b := 1) (by decide) hx v; rwa [mw6] at this
theorem rZ2 (I V : Nat → Nat → Int32) {x : Int32} (hx : vp_in x 6) : wR I 0 V 377 x.toNatClampNeg = V 2 x.toNatClampNeg := by have := rR2 I V (b := 0) (by decide) hx; rwa [mz6, z32] at this
theorem rO2 (I V : Nat → Nat → Int32) {x : Int32} (hx : vp_in x 6) : wR I 1 V 377 (6 + x).toNatClampNeg = V 2 x.toNatClampNeg := by have := rR2 I V (b := 1) (by decide) hx; rwa [mw6] at this
theorem rY2 (I V : Nat → Nat → Int32) {x : Int32} (hx : vp_in x 6) (v : Int32) : xu (wR I 0 V) 377 x.toNatClampNeg v = wR I 0 (xu V 2 x.toNatClampNeg v) := by have := rW2 I V (b := 0) (by decide) hx v; rwa [mz6, z32] at this
theorem rP2 (I V : Nat → Nat → Int32) {x : Int32} (hx : vp_in x 6) (v : Int32) : xu (wR I 1 V) 377 (6 + x).toNatClampNeg v = wR I 1 (xu V 2 x.toNatClampNeg v) := by have := rW2 I V (b := 1) (by decide) hx v; rwa [mw6] at this
theorem rS13_0 (I V : Nat → Nat → Int32) : wR I 0 V 378 (0 : Int32).toNatClampNeg = V 13 0 := rR13 I V (b := 0) (by decide)
theorem rU13_0 (I V : Nat → Nat → Int32) (v : Int32) : xu (wR I 0 V) 378 (0 : Int32).toNatClampNeg v = wR I 0 (xu V 13 0 v) := rW13 I V (b := 0) (by decide) v
theorem rS13_1 (I V : Nat → Nat → Int32) : wR I 1 V 378 (1 : Int32).toNatClampNeg = V 13 0 := rR13 I V (b := 1) (by decide)
theorem rU13_1 (I V : Nat → Nat → Int32) (v : Int32) : xu (wR I 1 V) 378 (1 : Int32).toNatClampNeg v = wR I 1 (xu V 13 0 v) := rW13 I V (b := 1) (by decide) v
theorem rZ5 (I V : Nat → Nat → Int32) {x : Int32} (hx : vp_in x 12) : wR I 0 V 383 x.toNatClampNeg = V 5 x.toNatClampNeg := by have := rR5 I V (b := 0) (by decide) hx; rwa [mz12, z32] at this
theorem rO5 (I V : Nat → Nat → Int32) {x : Int32} (hx : vp_in x 12) : wR I 1 V 383 (12 + x).toNatClampNeg = V 5 x.toNatClampNeg := by have := rR5 I V (b := 1) (by decide) hx; rwa [mw12] at this
theorem rY5 (I V : Nat → Nat → Int32) {x : Int32} (hx : vp_in x 12) (v : Int32) : xu (wR I 0 V) 383 x.toNatClampNeg v = wR I 0 (xu V 5 x.toNatClampNeg v) := by have := rW5 I V (b := 0) (by decide) hx v; rwa [mz12, z32] at this
theorem rP5 (I V : Nat → Nat → Int32) {x : Int32} (hx : vp_in x 12) (v : Int32) : xu (wR I 1 V) 383 (12 + x).toNatClampNeg v = wR I 1 (xu V 5 x.toNatClampNeg v) := by have := rW5 I V (b := 1) (by decide) hx v; rwa [mw12] at this
theorem rZ6 (I V : Nat → Nat → Int32) {x : Int32} (hx : vp_in x 12) : wR I 0 V 384 x.toNatClampNeg = V 6 x.toNatClampNeg := by have := rR6 I V (b := 0) (by decide) hx; rwa [mz12, z32] at this
theorem rO6 (I V : Nat → Nat → Int32) {x : Int32} (hx : vp_in x 12) : wR I 1 V 384 (12 + x).toNatClampNeg = V 6 x.toNatClampNeg := by have := rR6 I V (b := 1) (by decide) hx; rwa [mw12] at this
theorem rY6 (I V : Nat → Nat → Int32) {x : Int32} (hx : vp_in x 12) (v : Int32) : xu (wR I 0 V) 384 x.toNatClampNeg v = wR I 0 (xu V 6 x.toNatClampNeg v) := by have := rW6 I V (b := 0) (by decide) hx v; rwa [mz12, z32] at this
theorem rP6 (I V : Nat → Nat → Int32) {x : Int32} (hx : vp_in x 12) (v : Int32) : xu (wR I 1 V) 384 (12 + x).toNatClampNeg v = wR I 1 (xu V 6 x.toNatClampNeg v) := by have := rW6 I V (b := 1) (by decide) hx v; rwa [mw12] at this
theorem rZ9 (I V : Nat → Nat → Int32) {x : Int32} (hx : vp_in x 12) : wR I 0 V 385 x.toNatClampNeg = V 9 x.toNatClampNeg := by have := rR9 I V (b := 0) (by decide) hx; rwa [mz12, z32] at this
theorem rO9 (I V : Nat → Nat → Int32) {x : Int32} (hx : vp_in x 12) : wR I 1 V 385 (12 + x).toNatClampNeg = V 9 x.toNatClampNeg := by have := rR9 I V (b := 1) (by decide) hx; rwa [mw12] at this
theorem rY9 (I V : Nat → Nat → Int32) {x : Int32} (hx : vp_in x 12) (v : Int32) : xu (wR I 0 V) 385 x.toNatClampNeg v = wR I 0 (xu V 9 x.toNatClampNeg v) := by have := rW9 I V (b := 0) (by decide) hx v; rwa [mz12, z32] at this
theorem rP9 (I V : Nat → Nat → Int32) {x : Int32} (hx : vp_in x 12) (v : Int32) : xu (wR I 1 V) 385 (12 + x).toNatClampNeg v = wR I 1 (xu V 9 x.toNatClampNeg v) := by have := rW9 I V (b := 1) (by decide) hx v; rwa [mw12] at this
theorem rZ10 (I V : Nat → Nat → Int32) {x : Int32} (hx : vp_in x 12) : wR I 0 V 386 x.toNatClampNeg = V 10 x.toNatClampNeg := by have := rR10 I V (b := 0) (by decide) hx; rwa [mz12, z32] at this
theorem rO10 (I V : Nat → Nat → Int32) {x : Int32} (hx : vp_in x 12) : wR I 1 V 386 (12 + x).toNatClampNeg = V 10 x.toNatClampNeg := by have := rR10 I V (b := 1) (by decide) hx; rwa [mw12] at this
theorem rY10 (I V : Nat → Nat → Int32) {x : Int32} (hx : vp_in x 12) (v : Int32) : xu (wR I 0 V) 386 x.toNatClampNeg v = wR I 0 (xu V 10 x.toNatClampNeg v) := by have := rW10 I V (b := 0) (by decide) hx v; rwa [mz12, z32] at this
theorem rP10 (I V : Nat → Nat → Int32) {x : Int32} (hx : vp_in x 12) (v : Int32) : xu (wR I 1 V) 386 (12 + x).toNatClampNeg v = wR I 1 (xu V 10 x.toNatClampNeg v) := by have := rW10 I V (b := 1) (by decide) hx v; rwa [mw12] at this
theorem rZ12 (I V : Nat → Nat → Int32) {x : Int32} (hx : vp_in x 12) : wR I 0 V 387 x.toNatClampNeg = bI (V 12 0) x.toNatClampNeg := by have := rR12 I V (b := 0) (by decide) hx; rwa [mz12, z32] at this
theorem rO12 (I V : Nat → Nat → Int32) {x : Int32} (hx : vp_in x 12) : wR I 1 V 387 (12 + x).toNatClampNeg = bI (V 12 0) x.toNatClampNeg := by have := rR12 I V (b := 1) (by decide) hx; rwa [mw12] at this
theorem rZ11 (I V : Nat → Nat → Int32) {x : Int32} (hx : vp_in x 8) : wR I 0 V 388 x.toNatClampNeg = V 11 x.toNatClampNeg := by have := rR11 I V (b := 0) (by decide) hx; rwa [mz8, z32] at this
theorem rO11 (I V : Nat → Nat → Int32) {x : Int32} (hx : vp_in x 8) : wR I 1 V 388 (8 + x).toNatClampNeg = V 11 x.toNatClampNeg := by have := rR11 I V (b := 1) (by decide) hx; rwa [mw8] at this
theorem rY11 (I V : Nat → Nat → Int32) {x : Int32} (hx : vp_in x 8) (v : Int32) : xu (wR I 0 V) 388 x.toNatClampNeg v = wR I 0 (xu V 11 x.toNatClampNeg v) := by have := rW11 I V (b := 0) (by decide) hx v; rwa [mz8, z32] at this
theorem rP11 (I V : Nat → Nat → Int32) {x : Int32} (hx : vp_in x 8) (v : Int32) : xu (wR I 1 V) 388 (8 + x).toNatClampNeg v = wR I 1 (xu V 11 x.toNatClampNeg v) := by have := rW11 I V (b := 1) (by decide) hx v; rwa [mw8] at this
theorem rS15_0 (I V : Nat → Nat → Int32) : wR I 0 V 389 (0 : Int32).toNatClampNeg = V 15 0 := rR15 I V (b := 0) (by decide)
theorem rU15_0 (I V : Nat → Nat → Int32) (v : Int32) : xu (wR I 0 V) 389 (0 : Int32).toNatClampNeg v = wR I 0 (xu V 15 0 v) := rW15 I V (b := 0) (by decide) v
theorem rS15_1 (I V : Nat → Nat → Int32) : wR I 1 V 389 (1 : Int32).toNatClampNeg = V 15 0 := rR15 I V (b := 1) (by decide)
theorem rU15_1 (I V : Nat → Nat → Int32) (v : Int32) : xu (wR I 1 V) 389 (1 : Int32).toNatClampNeg v = wR I 1 (xu V 15 0 v) := rW15 I V (b := 1) (by decide) v
theorem rS14_0 (I V : Nat → Nat → Int32) : wR I 0 V 390 (0 : Int32).toNatClampNeg = V 14 0 := rR14 I V (b := 0) (by decide)
theorem rU14_0 (I V : Nat → Nat → Int32) (v : Int32) : xu (wR I 0 V) 390 (0 : Int32).toNatClampNeg v = wR I 0 (xu V 14 0 v) := rW14 I V (b := 0) (by decide) v
theorem rS14_1 (I V : Nat → Nat → Int32) : wR I 1 V 390 (1 : Int32).toNatClampNeg = V 14 0 := rR14 I V (b := 1) (by decide)
theorem rU14_1 (I V : Nat → Nat → Int32) (v : Int32) : xu (wR I 1 V) 390 (1 : Int32).toNatClampNeg v = wR I 1 (xu V 14 0 v) := rW14 I V (b := 1) (by decide) v
