/-! the tokens of both go on alike -/
theorem tbR.p {T U : Nat → Int32} {n : Nat} (h : tbR T U n) : tpR T U n := fun k hk => (h k hk).2
theorem tbR.cut {T U : Nat → Int32} {n m : Nat} (h : tbR T U n) (hm : m ≤ n) : tbR T U m := fun k hk => h k (by omega)
theorem tbR.zero (T U : Nat → Int32) : tbR T U 0 := fun k hk => absurd hk (Nat.not_lt_zero _)
theorem tbR.feed {T U : Nat → Int32} {n : Nat} (h : tbR T U n) (a b c e f : Int32) : tbR (cTf T n a b c e f) (rTf U n a b c e f 20) (n + 20) := by
  intro k hk
  refine ⟨?_, tpR.feed h.p a b c e f k hk⟩
  rw [cTf_at]
  by_cases h0 : k < n
  · rw [if_pos (Or.inl h0)]; exact (h k h0).1
  · rw [if_neg (by omega)]
    split
    · exact cBy_ok _ _
    · split
      · exact cBy_ok _ _
      · split
        · exact cBy_ok _ _
        · split
          · exact cBy_ok _ _
          · exact cBy_ok _ _
theorem cWo_i (T : Nat → Int32) : ∀ c i n v, i ≤ (cWo T c i n v).1 ∧ (cWo T c i n v).1 ≤ i + c := by
  intro c
  induction c with
  | zero => intro i n v; exact ⟨Nat.le_refl _, Nat.le_refl _⟩
  | succ c ih =>
    intro i n v
    rw [cWo]
    by_cases q : cLt (T i)
    · rw [if_pos q]
      have := ih (i + 1) (n + 1) (if 6 ≤ nI n then v else (v <<< (5 &&& 31)) ||| (T i - 97 + 1))
      omega
    · rw [if_neg q]; exact ⟨Nat.le_refl _, Nat.le_add_right _ _⟩
theorem cNu_i (T : Nat → Int32) : ∀ c i v, i ≤ (cNu T c i v).1 ∧ (cNu T c i v).1 ≤ i + c := by
  intro c
  induction c with
  | zero => intro i v; exact ⟨Nat.le_refl _, Nat.le_refl _⟩
  | succ c ih =>
    intro i v
    rw [cNu]
    by_cases q : cDg (T i)
    · rw [if_pos q]
      have := ih (i + 1) (cMn (v * 10 + T i - 48))
      omega
    · rw [if_neg q]; exact ⟨Nat.le_refl _, Nat.le_add_right _ _⟩
theorem cSi_i (T : Nat → Int32) {s j : Nat} (hj : j < s) : j < (cSi T s j).1 ∧ (cSi T s j).1 ≤ s := by
  rw [cSi]
  by_cases q : cDk (T j) (cBh T s j) = 39
  · rw [if_pos q]; exact ⟨Nat.lt_succ_self _, hj⟩
  · rw [if_neg q]
    have : j + 1 < s := by
      apply Classical.byContradiction
      intro z
      apply q
      rw [cBh, if_neg z, cDk, if_neg (fun y => absurd y.2 (by decide)), if_neg (fun y => absurd y.2 (by decide)), if_neg (fun y => absurd y.2 (by decide))]
    exact ⟨by show j < j + 2; omega, this⟩
/-- a token ends behind its place, and not behind the text -/
theorem cTo_i (T : Nat → Int32) {s j : Nat} (hj : j ≤ s) (v : Int32) : j ≤ (cTo T s j v).1 ∧ (cTo T s j v).1 ≤ s ∧ (j < s → j < (cTo T s j v).1) := by
  rw [cTo]
  by_cases e : s ≤ j
  · rw [if_pos e]; exact ⟨Nat.le_refl _, hj, fun z => absurd z (by omega)⟩
  rw [if_neg e]
  by_cases q : cLt (T j)
  · rw [if_pos q]
    obtain ⟨c, hc⟩ : ∃ c, s - j = c + 1 := ⟨s - j - 1, by omega⟩
    rw [hc, cWo, if_pos q]
    have := cWo_i T c (j + 1) (0 + 1) (if 6 ≤ nI 0 then (0 : Int32) else ((0 : Int32) <<< (5 &&& 31 : Int32)) ||| (T j - 97 + 1))
    exact ⟨by show j ≤ _; omega, by show _ ≤ s; omega, fun _ => by show j < _; omega⟩
  rw [if_neg q]
  by_cases g : cDg (T j)
  · rw [if_pos g]
    obtain ⟨c, hc⟩ : ∃ c, s - j = c + 1 := ⟨s - j - 1, by omega⟩
    rw [hc, cNu, if_pos g]
    have := cNu_i T c (j + 1) (cMn (0 * 10 + T j - 48))
    exact ⟨by show j ≤ _; omega, by show _ ≤ s; omega, fun _ => by show j < _; omega⟩
  rw [if_neg g]
  have := cSi_i T (s := s) (j := j) (by omega)
  exact ⟨by show j ≤ _; omega, this.2, fun _ => this.1⟩
/-- the next token, of both -/
theorem tok_R {T U : Nat → Int32} {s : Nat} (hs : s ≤ 700) (h : tbR T U s) {i : Nat} (hi : i ≤ s) (v w : Int32) : cSp U (s - i) i = cSp T (s - i) i ∧ i ≤ cSp T (s - i) i ∧ cSp T (s - i) i ≤ s ∧ (rTo U rWords s (cSp U (s - i) i) w).1 = (cTo T s (cSp T (s - i) i) v).1 ∧ TkR (cTo T s (cSp T (s - i) i) v).2.1 (cTo T s (cSp T (s - i) i) v).2.2 (rTo U rWords s (cSp U (s - i) i) w).2.1 (rTo U rWords s (cSp U (s - i) i) w).2.2 := by
  have e := cSp_R h (s - i) i (by omega)
  have l := cSp_le T (s - i) i
  have hj : cSp T (s - i) i ≤ s := by omega
  rw [e]
  exact ⟨rfl, l.1, hj, (cTo_R hs h hj v w).1, (cTo_R hs h hj v w).2⟩
