/-! constructors: what the pointers are, how cells are made one behind the other (by program, wip/gen2/ctor.py) -/
def PT : List (List Nat) := [[2, 0, 0, 0, 3, 32, 45, 57, 69, 0, 81, 93, 0, 0, 94, 99, 102, 104, 107], [], [29, 30, 4, 17], [5, 6, 7, 0, 8, 9, 10, 0, 11], [], [], [], [], [], [], [12, 13, 14, 15, 16], [], [], [], [], [], [4, 18, 19, 20, 21, 22, 23, 24, 25, 26, 27, 28], [], [], [], [], [], [], [], [], [], [], [], [2], [29, 31], [], [33, 34, 35, 0, 36, 37, 38, 0, 39], [], [], [], [], [], [], [40, 41, 42, 43, 44], [], [], [], [], [], [32, 46, 47, 48, 49, 50, 51, 52, 53, 54, 55, 56], [], [], [], [], [], [], [], [], [], [], [], [32, 58, 59, 60, 61, 62, 63, 64, 65, 66, 67, 68], [], [], [], [], [], [], [], [], [], [], [], [32, 70, 71, 72, 73, 74, 75, 76, 77, 78, 79, 80], [], [], [], [], [], [], [], [], [], [], [], [32, 82, 83, 84, 85, 86, 87, 88, 89, 90, 91, 92], [], [], [], [], [], [], [], [], [], [], [], [108, 120, 132, 144, 156, 168, 180, 192, 204, 216, 228, 240, 252, 264, 276, 288, 300, 312, 324, 336], [95, 96, 97, 98], [], [], [], [], [100, 101], [], [], [103], [], [105, 106], [], [], [], [32, 109, 110, 111, 112, 113, 114, 115, 116, 117, 118, 119], [], [], [], [], [], [], [], [], [], [], [], [32, 121, 122, 123, 124, 125, 126, 127, 128, 129, 130, 131], [], [], [], [], [], [], [], [], [], [], [], [32, 133, 134, 135, 136, 137, 138, 139, 140, 141, 142, 143], [], [], [], [], [], [], [], [], [], [], [], [32, 145, 146, 147, 148, 149, 150, 151, 152, 153, 154, 155], [], [], [], [], [], [], [], [], [], [], [], [32, 157, 158, 159, 160, 161, 162, 163, 164, 165, 166, 167], [], [], [], [], [], [], [], [], [], [], [], [32, 169, 170, 171, 172, 173, 174, 175, 176, 177, 178, 179], [], [], [], [], [], [], [], [], [], [], [], [32, 181, 182, 183, 184, 185, 186, 187, 188, 189, 190, 191], [], [], [], [], [], [], [], [], [], [], [], [32, 193, 194, 195, 196, 197, 198, 199, 200, 201, 202, 203], [], [], [], [], [], [], [], [], [], [], [], [32, 205, 206, 207, 208, 209, 210, 211, 212, 213, 214, 215], [], [], [], [], [], [], [], [], [], [], [], [32, 217, 218, 219, 220, 221, 222, 223, 224, 225, 226, 227], [], [], [], [], [], [], [], [], [], [], [], [32, 229, 230, 231, 232, 233, 234, 235, 236, 237, 238, 239], [], [], [], [], [], [], [], [], [], [], [], [32, 241, 242, 243, 244, 245, 246, 247, 248, 249, 250, 251], [], [], [], [], [], [], [], [], [], [], [], [32, 253, 254, 255, 256, 257, 258, 259, 260, 261, 262, 263], [], [], [], [], [], [], [], [], [], [], [], [32, 265, 266, 267, 268, 269, 270, 271, 272, 273, 274, 275], [], [], [], [], [], [], [], [], [], [], [], [32, 277, 278, 279, 280, 281, 282, 283, 284, 285, 286, 287], [], [], [], [], [], [], [], [], [], [], [], [32, 289, 290, 291, 292, 293, 294, 295, 296, 297, 298, 299], [], [], [], [], [], [], [], [], [], [], [], [32, 301, 302, 303, 304, 305, 306, 307, 308, 309, 310, 311], [], [], [], [], [], [], [], [], [], [], [], [32, 313, 314, 315, 316, 317, 318, 319, 320, 321, 322, 323], [], [], [], [], [], [], [], [], [], [], [], [32, 325, 326, 327, 328, 329, 330, 331, 332, 333, 334, 335], [], [], [], [], [], [], [], [], [], [], [], [32, 337, 338, 339, 340, 341, 342, 343, 344, 345, 346, 347], [], [], [], [], [], [], [], [], [], [], [], [349, 0, 0, 350, 0, 0, 0, 0, 0, 0, 0, 0, 0, 0, 0, 0, 0, 0, 0, 0, 351, 352, 353, 354, 355, 356, 357, 358, 359, 360, 361, 362, 363, 364, 365, 366, 367, 368, 369, 370, 371, 372, 373, 374, 0, 0, 0, 0, 0, 0, 375, 376, 0, 377, 378, 379, 380, 381, 382, 383, 384, 385, 386, 387, 388, 389, 390, 391, 0, 0, 0, 0, 392, 393, 394, 395, 0, 0, 396, 397, 398, 399, 400, 0, 401, 0, 402, 403, 404], [], [], [], [], [], [], [], [], [], [], [], [], [], [], [], [], [], [], [], [], [], [], [], [], [], [], [], [], [], [], [], [], [], [], [], [], [], [], [], [], [], [], [], [], [], [], [], [], [], [], [], [], [], [], [], [], []]
def PI (a k : Nat) : Nat := (PT.getD a []).getD k 0
def J0 : Nat → Nat → Int64 := fun _ _ => 0
def zr {α : Type} [OfNat α 0] (f : Nat → Nat → α) (q : Nat) : Nat → Nat → α := fun a k => if a = q then 0 else f a k
/-- the row of n holds what P says of its places below j -/
def rwp (P : Nat → Nat → Nat) (n j : Nat) : Nat → Nat → Nat := fun a k => if a = n ∧ j ≤ k then 0 else P a k
theorem zr_up (P : Nat → Nat → Nat) (n : Nat) : zr P n = rwp P n 0 := by funext a k; simp [zr, rwp]
theorem rwp_end {P : Nat → Nat → Nat} {n j : Nat} (h : ∀ k, j ≤ k → P n k = 0) : rwp P n j = P := by
  funext a k
  unfold rwp
  split
  · rename_i z; rw [z.1, h k z.2]
  · rfl
theorem rwp_x {P : Nat → Nat → Nat} {n i j v : Nat} (hij : i ≤ j) (hg : ∀ k, i ≤ k → k < j → P n k = 0) (hv : P n j = v) : xu (rwp P n i) n j v = rwp P n (j + 1) := by
  funext a k
  unfold xu rwp
  by_cases e : a = n ∧ k = j
  · rw [if_pos e, if_neg (by omega), e.1, e.2, hv]
  · rw [if_neg e]
    by_cases e2 : a = n ∧ i ≤ k
    · rw [if_pos e2]
      by_cases e3 : a = n ∧ j + 1 ≤ k
      · rw [if_pos e3]
      · rw [if_neg e3, e2.1, hg k e2.2 (by omega)]
    · rw [if_neg e2, if_neg (by omega)]
theorem rwp_o {P : Nat → Nat → Nat} {n j a : Nat} (h : a ≠ n) (k : Nat) : rwp P n j a k = P a k := by simp [rwp, h]
theorem rwp_lt {P : Nat → Nat → Nat} {n j k : Nat} (h : k < j) : rwp P n j n k = P n k := by unfold rwp; rw [if_neg (by omega)]
theorem tk {a m : Nat} {q : xK × Nat} (h : SH[a]? = some q) (hl : a < m) : (SH.take m)[a]? = some q := by rw [List.getElem?_take_of_lt hl]; exact h
theorem tk_len {q : Nat} {c : xK × Nat} (h : SH[q]? = some c) : (SH.take q).length = q := by
  have := (List.getElem?_eq_some_iff.mp h).1
  rw [List.length_take]; omega
theorem tk_s {q n : Nat} {c : xK} (h : SH[q]? = some (c, n)) : xsn c n (SH.take q) = SH.take (q + 1) := by
  unfold xsn
  rw [List.take_add_one, h]; rfl
theorem xzn_t {α : Type} [OfNat α 0] {f : Nat → Nat → α} {q : Nat} {c : xK × Nat} (h : SH[q]? = some c) : xzn f (SH.take q) = zr f q := by
  unfold xzn zr; rw [tk_len h]
theorem zr_id {α : Type} [OfNat α 0] {f : Nat → Nat → α} {q : Nat} (h : ∀ k, f q k = 0) : zr f q = f := by
  funext a k
  unfold zr
  split
  · rename_i e; rw [e, h k]
  · rfl
section CN
variable {call : xCl} {X : Option (Nat × (Nat → Int32))} {y : MethodName} {cc : ByteArray} {ret : Option FieldType} {pc : Nat} {ls : List (Option Value)} {st : List Value} {Q : Option Value → xS → Prop} {I : Nat → Nat → Int32} {P : Nat → Nat → Nat}
theorem c_newa {a : ArrayType} {j m q : Nat} {v : Int32} (hd : decode cc pc = .ok (.newarray a, 2)) (hv : ¬ v < 0 ∧ v.toNatClampNeg = m ∧ m ≤ 1000000) (hj : xat a = some j) (hs : SH[q]? = some (.inr j, m)) (hI : ∀ k, I q k = 0) (hPq : ∀ k, P q k = 0) (kk : xR call true X y cc ret (pc + 2) ls (.ref q :: st) (SH.take (q + 1), I, J0, P) Q) : xR call true X y cc ret pc ls (.int v :: st) (SH.take q, I, J0, P) Q := by
  refine r_newa hd rfl hv.1 hv.2.1 hv.2.2 hj (tk_len hs) ?_
  rw [tk_s hs, xzn_t hs, xzn_t hs, xzn_t hs, zr_id hI, zr_id hPq, zr_id (f := J0) (fun _ => rfl)]
  exact kk
theorem c_anew {idx m q : Nat} {v : Int32} (hd : decode cc pc = .ok (.anewarray idx, 3)) (hl : Cond.classLink y.cls idx RX0 ∈ xgw) (hv : ¬ v < 0 ∧ v.toNatClampNeg = m ∧ m ≤ 1000000) (hs : SH[q]? = some (.inr 4, m)) (hI : ∀ k, I q k = 0) (kk : xR call true X y cc ret (pc + 3) ls (.ref q :: st) (SH.take (q + 1), I, J0, zr P q) Q) : xR call true X y cc ret pc ls (.int v :: st) (SH.take q, I, J0, P) Q := by
  refine r_anew hd rfl hl hv.1 hv.2.1 hv.2.2 (tk_len hs) ?_
  rw [tk_s hs, xzn_t hs, xzn_t hs, xzn_t hs, zr_id hI, zr_id (f := J0) (fun _ => rfl)]
  exact kk
theorem c_new {idx ci N q : Nat} (hd : decode cc pc = .ok (.new idx, 3)) (hl : xNl y.cls idx ci N) (hs : SH[q]? = some (.inl ci, N)) (hI : ∀ k, I q k = 0) (kk : xR call true X y cc ret (pc + 3) ls (.ref q :: st) (SH.take (q + 1), I, J0, zr P q) Q) : xR call true X y cc ret pc ls st (SH.take q, I, J0, P) Q := by
  refine r_new hd rfl hl (tk_len hs) ?_
  rw [tk_s hs, xzn_t hs, xzn_t hs, xzn_t hs, zr_id hI, zr_id (f := J0) (fun _ => rfl)]
  exact kk
/-- a reference put into the row of n, the next in its order -/
theorem c_put {idx ci k : Nat} {ty : FieldType} {N n i q m : Nat} (hd : decode cc pc = .ok (.putfield idx, 3)) (hf : xFl y.cls idx ci k ty) (hn : xFin y ci k) (hs : SH[n]? = some (.inl ci, N)) (hm : n < m) (hk : k < N) (hz : xfk ci k = 2) (h2 : fits ty (.ref 0) = true) (hik : i ≤ k) (hg : ∀ z, i ≤ z → z < k → P n z = 0) (hv : P n k = q + 1) (kk : xR call true X y cc ret (pc + 3) ls st (SH.take m, I, J0, rwp P n (k + 1)) Q) : xR call true X y cc ret pc ls (.ref q :: .ref n :: st) (SH.take m, I, J0, rwp P n i) Q := by
  refine r_putR hd hf hn (tk hs hm) hk hz h2 ?_
  rw [rwp_x hik hg hv]
  exact kk
end CN
theorem prow_b : ∀ b ∈ BR, PT.getD b [] = [if b = 16 then 4 else 32, b + 1 + 1, b + 2 + 1, b + 3 + 1, b + 4 + 1, b + 5 + 1, b + 6 + 1, b + 7 + 1, b + 8 + 1, b + 9 + 1, b + 10 + 1, b + 11 + 1] := by decide +kernel
theorem prow_ba : ∀ b ∈ BR, ∀ j, j < 11 → PT.getD (b + 1 + j) [] = [] := by decide +kernel
theorem prow_t : ∀ t ∈ TL, PT.getD t [] = [t + 1 + 1, t + 2 + 1, t + 3 + 1, 0, t + 4 + 1, t + 5 + 1, t + 6 + 1, 0, t + 7 + 1] := by decide +kernel
theorem prow_w : ∀ t ∈ TL, PT.getD (t + 7) [] = [t + 8 + 1, t + 9 + 1, t + 10 + 1, t + 11 + 1, t + 12 + 1] := by decide +kernel
theorem prow_ta : ∀ t ∈ TL, ∀ j, j < 13 → j ≠ 0 → j ≠ 7 → PT.getD (t + j) [] = [] := by decide +kernel
theorem prow_0 : PT.getD 0 [] = [2, 0, 0, 0, 3, 32, 45, 57, 69, 0, 81, 93, 0, 0, 94, 99, 102, 104, 107] := by decide +kernel
theorem prow_2 : PT.getD 2 [] = [29, 30, 4, 17] := by decide +kernel
theorem prow_28 : PT.getD 28 [] = [2] := by decide +kernel
theorem prow_29 : PT.getD 29 [] = [29, 31] := by decide +kernel
theorem prow_93 : PT.getD 93 [] = [95, 96, 97, 98] := by decide +kernel
theorem prow_98 : PT.getD 98 [] = [100, 101] := by decide +kernel
theorem prow_101 : PT.getD 101 [] = [103] := by decide +kernel
theorem prow_103 : PT.getD 103 [] = [105, 106] := by decide +kernel
theorem prow_347 : PT.getD 347 [] = [349, 0, 0, 350, 0, 0, 0, 0, 0, 0, 0, 0, 0, 0, 0, 0, 0, 0, 0, 0, 351, 352, 353, 354, 355, 356, 357, 358, 359, 360, 361, 362, 363, 364, 365, 366, 367, 368, 369, 370, 371, 372, 373, 374, 0, 0, 0, 0, 0, 0, 375, 376, 0, 377, 378, 379, 380, 381, 382, 383, 384, 385, 386, 387, 388, 389, 390, 391, 0, 0, 0, 0, 392, 393, 394, 395, 0, 0, 396, 397, 398, 399, 400, 0, 401, 0, 402, 403, 404] := by decide +kernel
theorem prow_a94 : ∀ j, j < 4 → PT.getD (94 + j) [] = [] := by decide +kernel
theorem prow_a99 : ∀ j, j < 2 → PT.getD (99 + j) [] = [] := by decide +kernel
theorem prow_a102 : ∀ j, j < 1 → PT.getD (102 + j) [] = [] := by decide +kernel
theorem prow_a104 : ∀ j, j < 3 → PT.getD (104 + j) [] = [] := by decide +kernel
theorem prow_a348 : ∀ j, j < 56 → PT.getD (348 + j) [] = [] := by decide +kernel
theorem prow_1 : PT.getD 1 [] = [] := by decide +kernel
theorem prow_30 : PT.getD 30 [] = [] := by decide +kernel
theorem prow_92 : ∀ j, j < 20 → PI 92 j = 107 + 12 * j + 1 := by decide +kernel
theorem prow_92l : (PT.getD 92 []).length = 20 := by decide +kernel
theorem PI_e {a : Nat} (h : PT.getD a [] = []) (k : Nat) : PI a k = 0 := by unfold PI; rw [h]; rfl
theorem PI_r {a : Nat} {l : List Nat} (h : PT.getD a [] = l) (k : Nat) : PI a k = l.getD k 0 := by unfold PI; rw [h]
theorem gd_big {l : List Nat} {k : Nat} (h : l.length ≤ k) : l.getD k 0 = 0 := by rw [List.getD_eq_getElem?_getD, List.getElem?_eq_none h]; rfl
