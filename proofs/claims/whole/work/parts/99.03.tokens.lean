/-! the tokens of both -/
/-- a number that a byte row holds -/
def bOk (t : Int32) : Prop := ∃ z : Int8, t = z.toInt32
theorem cBy_ok (x : Int32) (j : Nat) : bOk (cBy x j) := ⟨_, rfl⟩
theorem i8_all (z : Int8) : z = Int8.ofNat z.toBitVec.toNat := Int8.toBitVec_inj.mp (by
  show z.toBitVec = BitVec.ofNat 8 z.toBitVec.toNat
  exact ((BitVec.ofNat_toNat 8 z.toBitVec).trans (BitVec.setWidth_eq _)).symm)
theorem bt_all : ∀ n : Nat, n < 256 → ((Int8.ofNat n).toInt32 &&& 255 = (Int8.ofNat n).toInt32 ∧ 0 ≤ (Int8.ofNat n).toInt32) ∨ ((Int8.ofNat n).toInt32 < 0 ∧ 128 ≤ (Int8.ofNat n).toInt32 &&& 255) := by decide +kernel
theorem bOk.c {t : Int32} (h : bOk t) : (t &&& 255 = t ∧ 0 ≤ t) ∨ (t < 0 ∧ 128 ≤ t &&& 255) := by
  obtain ⟨z, rfl⟩ := h
  rw [i8_all z]
  exact bt_all _ z.toBitVec.isLt
theorem bOk.e {t c : Int32} (h : bOk t) (h0 : 0 ≤ c) (h1 : c < 128) : t = c ↔ t &&& 255 = c := by
  rcases h.c with ⟨h2, h3⟩ | ⟨h2, h3⟩
  · rw [h2]
  · constructor
    · intro z; rw [z] at h2; exact absurd h2 (Int32.not_lt.mpr h0)
    · intro z; rw [z] at h3; exact absurd h1 (Int32.not_lt.mpr h3)
theorem bOk.r {t lo hi : Int32} (h : bOk t) (h0 : 0 ≤ lo) (h1 : hi < 128) : (¬ t < lo ∧ ¬ hi < t) ↔ (¬ t &&& 255 < lo ∧ ¬ hi < t &&& 255) := by
  rcases h.c with ⟨h2, h3⟩ | ⟨h2, h3⟩
  · rw [h2]
  · constructor
    · intro z; exact absurd (Int32.lt_of_lt_of_le h2 h0) z.1
    · intro z; exact absurd (Int32.lt_of_lt_of_le h1 h3) z.2
theorem bOk.l {t : Int32} (h : bOk t) : cLt t ↔ cLt (t &&& 255) := h.r (by decide) (by decide)
theorem bOk.d {t : Int32} (h : bOk t) : cDg t ↔ cDg (t &&& 255) := h.r (by decide) (by decide)
theorem bOk.s {t : Int32} (h : bOk t) (h0 : ¬ t < 0) : t &&& 255 = t := by
  rcases h.c with ⟨h2, h3⟩ | ⟨h2, h3⟩
  · exact h2
  · exact absurd h2 h0
/-- the tapes of a text -/
def tbR (T U : Nat → Int32) (s : Nat) : Prop := ∀ k, k < s → bOk (T k) ∧ U k = T k &&& 255
theorem cSp_R {T U : Nat → Int32} {s : Nat} (h : tbR T U s) : ∀ c i, i + c = s → cSp U c i = cSp T c i := by
  intro c
  induction c with
  | zero => intro i _; rfl
  | succ c ih =>
    intro i hi
    obtain ⟨hb, hu⟩ := h i (by omega)
    rw [cSp, cSp, ih (i + 1) (by omega), hu]
    have e : (T i &&& 255 = 10 ∨ T i &&& 255 = 32) ↔ (T i = 10 ∨ T i = 32) := by rw [← hb.e (by decide) (by decide), ← hb.e (by decide) (by decide)]
    by_cases q : T i = 10 ∨ T i = 32
    · rw [if_pos q, if_pos (e.mpr q)]
    · rw [if_neg q, if_neg (fun z => q (e.mp z))]
/-- the two readings of a number -/
def nuR (v w : Int32) : Prop := (v = w ∧ ∃ x, x ≤ 99999 ∧ v = nI x) ∨ ((∃ x, 99999 < x ∧ x ≤ 1000000 ∧ v = nI x) ∧ ∃ x, 99999 < x ∧ x ≤ 1000000 ∧ w = nI x)
theorem nI_10 (x c : Nat) (hc : 48 ≤ c) : nI x * 10 + nI c - 48 = nI (x * 10 + (c - 48)) := by
  rw [show nI x * 10 = nI (x * 10) from (Int32.ofNat_mul x 10).symm, nI_add, show (48 : Int32) = nI 48 from rfl, pk_sub (by omega), show x * 10 + c - 48 = x * 10 + (c - 48) by omega]
theorem cDg_n {t : Int32} (h : cDg t) : ∃ c, 48 ≤ c ∧ c ≤ 57 ∧ t = nI c := by
  have h1 : ¬ t.toInt < 48 := fun z => h.1 (Int32.lt_iff_toInt_lt.mpr z)
  have h2 : ¬ 57 < t.toInt := fun z => h.2 (Int32.lt_iff_toInt_lt.mpr z)
  refine ⟨t.toInt.toNat, by omega, by omega, Int32.toInt_inj.mp ?_⟩
  rw [nI_toInt (by omega)]
  omega
theorem nuR.st {v w t : Int32} (h : nuR v w) (hd : cDg t) : nuR (cMn (v * 10 + t - 48)) (if w ≤ 99999 then 10 * w + t - 48 else w) := by
  obtain ⟨c, hc, hc2, rfl⟩ := cDg_n hd
  rcases h with ⟨rfl, x, hx, rfl⟩ | ⟨⟨x, hx, hx2, rfl⟩, z, hz, hz2, rfl⟩
  · rw [Int32.mul_comm 10, nI_10 x c hc, if_pos (show nI x ≤ 99999 from nI_le (b := 99999) hx (by decide)), cMn, if_pos (show nI (x * 10 + (c - 48)) < 1000000 from nI_lt (b := 1000000) (by omega) (by decide))]
    by_cases q : x * 10 + (c - 48) ≤ 99999
    · exact Or.inl ⟨rfl, _, q, rfl⟩
    · exact Or.inr ⟨⟨_, by omega, by omega, rfl⟩, _, by omega, by omega, rfl⟩
  · rw [nI_10 x c hc, if_neg (show ¬ nI z ≤ 99999 from nI_ge (a := 99999) hz (by omega)), cMn, if_neg (show ¬ nI (x * 10 + (c - 48)) < 1000000 from nI_nlt (b := 1000000) (by omega) (by omega))]
    exact Or.inr ⟨⟨1000000, by decide, by decide, rfl⟩, z, hz, hz2, rfl⟩
theorem cNu_R {T U : Nat → Int32} {s : Nat} (h : tbR T U s) : ∀ c i v w, i + c = s → nuR v w → (rNu U c i w).1 = (cNu T c i v).1 ∧ nuR (cNu T c i v).2 (rNu U c i w).2 := by
  intro c
  induction c with
  | zero => intro i v w _ hv; exact ⟨rfl, hv⟩
  | succ c ih =>
    intro i v w hi hv
    obtain ⟨hb, hu⟩ := h i (by omega)
    rw [cNu, rNu, hu]
    by_cases q : cDg (T i)
    · rw [if_pos q, if_pos (hb.d.mp q), hb.s (fun z => q.1 (Int32.lt_of_lt_of_le z (by decide)))]
      exact ih _ _ _ (by omega) (hv.st q)
    · rw [if_neg q, if_neg (fun z => q (hb.d.mpr z))]
      exact ⟨rfl, hv⟩
theorem cWo_R {T U : Nat → Int32} {s : Nat} (h : tbR T U s) : ∀ c i n v, i + c = s → rLs U c i = (cWo T c i n v).1 ∧ (cWo T c i n v).2.1 + i = n + rLs U c i := by
  intro c
  induction c with
  | zero => intro i n v _; exact ⟨rfl, rfl⟩
  | succ c ih =>
    intro i n v hi
    obtain ⟨hb, hu⟩ := h i (by omega)
    rw [cWo, rLs, hu]
    by_cases q : cLt (T i)
    · rw [if_pos q, if_pos (hb.l.mp q)]
      have := ih (i + 1) (n + 1) (if 6 ≤ nI n then v else (v <<< (5 &&& 31)) ||| (T i - 97 + 1)) (by omega)
      exact ⟨this.1, by omega⟩
    · rw [if_neg q, if_neg (fun z => q (hb.l.mpr z))]
      exact ⟨rfl, rfl⟩
