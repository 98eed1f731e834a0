/-! a law of the program's text is the reference's -/
def b12 (v : Int64) : Prop := ¬ (1000000000000 < v ∨ v < -1000000000000)
theorem b12_iff {v : Int64} : b12 v ↔ -1000000000000 ≤ v.toInt ∧ v.toInt ≤ 1000000000000 := by
  have e1 : (1000000000000 : Int64).toInt = 1000000000000 := by decide
  have e2 : (-1000000000000 : Int64).toInt = -1000000000000 := by decide
  unfold b12
  rw [Int64.lt_iff_toInt_lt, Int64.lt_iff_toInt_lt, e1, e2]
  omega
theorem bm12 {n : Int} (h1 : -1000000000000 ≤ n) (h2 : n ≤ 1000000000000) : n.bmod (2 ^ 64) = n := Int.bmod_eq_of_le (by omega) (by omega)
theorem wCk_b {v : Int64} (h : b12 v) (r : List Int64) : wCk v r = some (v :: r) := by rw [wCk, if_neg h]
theorem wCk_x {v : Int64} (h : ¬ b12 v) (r : List Int64) : wCk v r = none := by rw [wCk, if_pos (Classical.not_not.mp h)]
theorem b12_01 {c : Prop} [Decidable c] : b12 (if c then 1 else 0) := by split <;> (unfold b12; decide)
theorem b12_10 {c : Prop} [Decidable c] : b12 (if c then 0 else 1) := by split <;> (unfold b12; decide)
theorem b12_32 (x : Int32) : b12 x.toInt64 := by
  rw [b12_iff, Int32.toInt_toInt64]
  have h1 := Int32.le_toInt x
  have h2 := Int32.toInt_lt x
  omega
theorem not_min : ¬ b12 (-9223372036854775808) := by unfold b12; decide
theorem ab_t {x : Int64} (h : b12 x) : (rAb x).toInt = x.toInt.natAbs := by
  have := b12_iff.mp h
  have e : (0 : Int64).toInt = 0 := by decide
  unfold rAb
  by_cases h2 : x < 0
  · rw [if_pos h2, Int64.toInt_neg, bm12 (by omega) (by omega)]
    rw [Int64.lt_iff_toInt_lt] at h2
    omega
  · rw [if_neg h2]
    rw [Int64.lt_iff_toInt_lt] at h2
    omega
/-- how often a number goes into the bound -/
theorem dv_t {x : Int64} (h : b12 x) : (1000000000000 / rAb x).toInt = ((1000000000000 : Nat) / x.toInt.natAbs : Nat) := by
  have e1 : (1000000000000 : Int64).toInt = 1000000000000 := by decide
  rw [Int64.toInt_div_of_ne_left _ _ (by decide), e1, ab_t h]
  rw [show (1000000000000 : Int) = ((1000000000000 : Nat) : Int) from rfl, Int.ofNat_tdiv]
theorem mo_e {x z : Int64} (hx : b12 x) (hz : b12 z) : (wMo x < z ∨ z < -wMo x) ↔ (¬ x = 0 ∧ 1000000000000 / rAb x < rAb z) := by
  by_cases x0 : x = 0
  · rw [wMo_0 x0]
    exact ⟨fun q => absurd q hz, fun q => absurd x0 q.1⟩
  · have e : wMo x = 1000000000000 / rAb x := by unfold wMo rAb; rw [if_neg x0]
    have hd : (1000000000000 : Nat) / x.toInt.natAbs ≤ 1000000000000 := Nat.div_le_self _ _
    have h1 := dv_t hx
    have h2 := ab_t hz
    generalize (1000000000000 : Nat) / x.toInt.natAbs = D at h1 hd
    rw [e]
    rw [Int64.lt_iff_toInt_lt, Int64.lt_iff_toInt_lt, Int64.lt_iff_toInt_lt, Int64.toInt_neg, h1, h2, bm12 (by omega) (by omega)]
    constructor
    · intro q
      exact ⟨x0, by omega⟩
    · intro q
      have := q.2
      omega
theorem tm_b {x z : Int64} (hx : b12 x) (hz : b12 z) (h : ¬ (¬ x = 0 ∧ ¬ z = 0 ∧ 1000000000000 / rAb x < rAb z)) : b12 (x * z) := by
  have e0 : (0 : Int64).toInt = 0 := by decide
  by_cases x0 : x = 0
  · rw [x0, Int64.zero_mul]; unfold b12; decide
  by_cases z0 : z = 0
  · rw [z0, Int64.mul_zero]; unfold b12; decide
  have h3 : ¬ 1000000000000 / rAb x < rAb z := fun q => h ⟨x0, z0, q⟩
  rw [Int64.lt_iff_toInt_lt, dv_t hx, ab_t hz] at h3
  have hxp : 0 < x.toInt.natAbs := by
    have : ¬ x.toInt = 0 := fun q => x0 (Int64.toInt_inj.mp (by rw [q, e0]))
    omega
  have h4 : z.toInt.natAbs ≤ 1000000000000 / x.toInt.natAbs := by omega
  have h5 : z.toInt.natAbs * x.toInt.natAbs ≤ 1000000000000 := (Nat.le_div_iff_mul_le hxp).mp h4
  have h6 : (x.toInt * z.toInt).natAbs ≤ 1000000000000 := by rw [Int.natAbs_mul, Nat.mul_comm]; exact h5
  rw [b12_iff, Int64.toInt_mul, bm12 (by omega) (by omega)]
  omega
theorem dv_b {x z : Int64} (hx : b12 x) : b12 (x / z) := by
  have h := b12_iff.mp hx
  have h2 : (x.toInt.tdiv z.toInt).natAbs ≤ x.toInt.natAbs := by
    rw [Int.natAbs_tdiv]
    exact Nat.div_le_self _ _
  have hm : x ≠ Int64.minValue := fun q => by
    rw [q] at h
    exact absurd h (by decide)
  rw [b12_iff, Int64.toInt_div_of_ne_left _ _ hm]
  omega
/-- a sign between two parts -/
theorem jo {k kr : Int32} (h : wtB k kr) {x z : Int64} (hx : b12 x) (hz : b12 z) (r : List Int64) : (∃ v, rVo kr 0 x z = (0, v) ∧ wCk (wJo k x z) r = some (v :: r) ∧ b12 v) ∨ ∃ v, rVo kr 0 x z = (1, v) ∧ wCk (wJo k x z) r = none := by
  obtain ⟨h, h33, h22⟩ := h
  rcases h with ⟨h1, h2⟩ | ⟨h1, h2⟩ | ⟨h1, h2⟩ | ⟨h1, h2⟩ | ⟨q, hq, h1, h2⟩ | ⟨h1, h2⟩ | ⟨h1, h2⟩ | ⟨h1, h2⟩ | ⟨h1, h2⟩
  · exact absurd h1 h33
  · exact absurd h1 h22
  · subst h1; subst h2
    refine Or.inl ⟨_, by rw [rVo, if_pos rfl], ?_, b12_01⟩
    rw [wJo, if_pos rfl]; exact wCk_b b12_01 r
  · subst h1; subst h2
    refine Or.inl ⟨_, by rw [rVo, if_neg (by decide), if_pos rfl], ?_, b12_01⟩
    rw [wJo, if_neg (by decide), if_pos rfl]; exact wCk_b b12_01 r
  · have e6 : ∀ v, rCp (nI (5 + q)) x z = v → rVo (nI (5 + q)) 0 x z = (0, if v = 0 then 0 else 1) := by
      intro v hv
      have y : ∀ q, q < 6 → ¬ nI (5 + q) = 3 ∧ ¬ nI (5 + q) = 4 ∧ ¬ nI (5 + q) = 11 ∧ ¬ nI (5 + q) = 12 ∧ ¬ nI (5 + q) = 13 ∧ ¬ nI (5 + q) = 14 := by decide +kernel
      have y := y q hq
      rw [rVo, if_neg y.1, if_neg y.2.1, if_neg y.2.2.1, if_neg y.2.2.2.1, if_neg y.2.2.2.2.1, if_neg y.2.2.2.2.2, hv]
    have key : ∃ v : Int32, rCp (nI (5 + q)) x z = v ∧ (if v = 0 then (0 : Int64) else 1) = wJo (nI (23 + q)) x z := by
      rcases (show q = 0 ∨ q = 1 ∨ q = 2 ∨ q = 3 ∨ q = 4 ∨ q = 5 by omega) with rfl | rfl | rfl | rfl | rfl | rfl
      · refine ⟨_, (show rCp 5 x z = _ by rw [rCp, if_pos rfl]), ?_⟩
        rw [show wJo (nI (23 + 0)) x z = _ from by rw [show nI (23 + 0) = (23 : Int32) from rfl, wJo, if_neg (by decide), if_neg (by decide), if_pos rfl]]
        by_cases c : x < z
        · rw [if_pos c, if_pos c]; rfl
        · rw [if_neg c, if_neg c]; rfl
      · refine ⟨_, (show rCp 6 x z = _ by rw [rCp, if_neg (by decide), if_pos rfl]), ?_⟩
        rw [show wJo (nI (23 + 1)) x z = _ from by rw [show nI (23 + 1) = (24 : Int32) from rfl, wJo, if_neg (by decide), if_neg (by decide), if_neg (by decide), if_pos rfl]]
        by_cases c : x ≤ z
        · rw [if_pos c, if_pos c]; rfl
        · rw [if_neg c, if_neg c]; rfl
      · refine ⟨_, (show rCp 7 x z = _ by rw [rCp, if_neg (by decide), if_neg (by decide), if_pos rfl]), ?_⟩
        rw [show wJo (nI (23 + 2)) x z = _ from by rw [show nI (23 + 2) = (25 : Int32) from rfl, wJo, if_neg (by decide), if_neg (by decide), if_neg (by decide), if_neg (by decide), if_pos rfl]]
        by_cases c : x = z
        · rw [if_pos c, if_pos c]; rfl
        · rw [if_neg c, if_neg c]; rfl
      · refine ⟨_, (show rCp 8 x z = _ by rw [rCp, if_neg (by decide), if_neg (by decide), if_neg (by decide), if_pos rfl]), ?_⟩
        rw [show wJo (nI (23 + 3)) x z = _ from by rw [show nI (23 + 3) = (26 : Int32) from rfl, wJo, if_neg (by decide), if_neg (by decide), if_neg (by decide), if_neg (by decide), if_neg (by decide), if_pos rfl]]
        by_cases c : x = z
        · rw [if_pos c, if_pos c]; rfl
        · rw [if_neg c, if_neg c]; rfl
      · refine ⟨_, (show rCp 9 x z = _ by rw [rCp, if_neg (by decide), if_neg (by decide), if_neg (by decide), if_neg (by decide), if_pos rfl]), ?_⟩
        rw [show wJo (nI (23 + 4)) x z = _ from by rw [show nI (23 + 4) = (27 : Int32) from rfl, wJo, if_neg (by decide), if_neg (by decide), if_neg (by decide), if_neg (by decide), if_neg (by decide), if_neg (by decide), if_pos rfl]]
        by_cases c : z ≤ x
        · rw [if_pos c, if_pos c]; rfl
        · rw [if_neg c, if_neg c]; rfl
      · refine ⟨_, (show rCp 10 x z = _ by rw [rCp, if_neg (by decide), if_neg (by decide), if_neg (by decide), if_neg (by decide), if_neg (by decide)]), ?_⟩
        rw [show wJo (nI (23 + 5)) x z = _ from by rw [show nI (23 + 5) = (28 : Int32) from rfl, wJo, if_neg (by decide), if_neg (by decide), if_neg (by decide), if_neg (by decide), if_neg (by decide), if_neg (by decide), if_neg (by decide), if_pos rfl]]
        by_cases c : z < x
        · rw [if_pos c, if_pos c]; rfl
        · rw [if_neg c, if_neg c]; rfl
    obtain ⟨v, k1, k2⟩ := key
    rw [h1, h2, ← k2]
    exact Or.inl ⟨_, e6 v k1, wCk_b b12_10 r, b12_10⟩
  · subst h1; subst h2
    have e1 : rVo 11 0 x z = rBd 0 (x + z) := by rw [rVo, if_neg (by decide), if_neg (by decide), if_pos rfl]
    have e2 : wJo 29 x z = x + z := by rw [wJo, if_neg (by decide), if_neg (by decide), if_neg (by decide), if_neg (by decide), if_neg (by decide), if_neg (by decide), if_neg (by decide), if_neg (by decide), if_pos rfl]
    rw [e1, e2]
    by_cases hb : b12 (x + z)
    · exact Or.inl ⟨x + z, by rw [rBd, if_neg (fun q => q.elim (fun y => y rfl) hb)], wCk_b hb r, hb⟩
    · exact Or.inr ⟨0, by rw [rBd, if_pos (Or.inr (Classical.not_not.mp hb))], wCk_x hb r⟩
  · subst h1; subst h2
    have e1 : rVo 12 0 x z = rBd 0 (x - z) := by rw [rVo, if_neg (by decide), if_neg (by decide), if_neg (by decide), if_pos rfl]
    have e2 : wJo 30 x z = x - z := by rw [wJo, if_neg (by decide), if_neg (by decide), if_neg (by decide), if_neg (by decide), if_neg (by decide), if_neg (by decide), if_neg (by decide), if_neg (by decide), if_neg (by decide), if_pos rfl]
    rw [e1, e2]
    by_cases hb : b12 (x - z)
    · exact Or.inl ⟨x - z, by rw [rBd, if_neg (fun q => q.elim (fun y => y rfl) hb)], wCk_b hb r, hb⟩
    · exact Or.inr ⟨0, by rw [rBd, if_pos (Or.inr (Classical.not_not.mp hb))], wCk_x hb r⟩
  · subst h1; subst h2
    have e1 : rVo 13 0 x z = rTm 0 x z := by rw [rVo, if_neg (by decide), if_neg (by decide), if_neg (by decide), if_neg (by decide), if_pos rfl]
    have e2 : wJo 31 x z = if wMo x < z ∨ z < -wMo x then -9223372036854775808 else x * z := by rw [wJo, if_neg (by decide), if_neg (by decide), if_neg (by decide), if_neg (by decide), if_neg (by decide), if_neg (by decide), if_neg (by decide), if_neg (by decide), if_neg (by decide), if_neg (by decide), if_pos rfl]
    rw [e1, e2]
    by_cases hm : ¬ x = 0 ∧ ¬ z = 0 ∧ 1000000000000 / rAb x < rAb z
    · rw [if_pos ((mo_e hx hz).mpr ⟨hm.1, hm.2.2⟩)]
      exact Or.inr ⟨0, by rw [rTm, if_pos (Or.inr hm)], wCk_x not_min r⟩
    · have hm2 : ¬ (¬ x = 0 ∧ 1000000000000 / rAb x < rAb z) := fun q => by
        by_cases z0 : z = 0
        · have q2 := q.2
          rw [z0, show rAb 0 = 0 from rfl, Int64.lt_iff_toInt_lt, dv_t hx] at q2
          have e0 : (0 : Int64).toInt = 0 := by decide
          rw [e0] at q2
          exact absurd q2 (Int.not_lt.mpr (Int.natCast_nonneg _))
        · exact hm ⟨q.1, z0, q.2⟩
      rw [if_neg (fun q => hm2 ((mo_e hx hz).mp q))]
      have hb := tm_b hx hz hm
      exact Or.inl ⟨x * z, by rw [rTm, if_neg (fun q => q.elim (fun y => y rfl) hm)], wCk_b hb r, hb⟩
  · subst h1; subst h2
    have e1 : rVo 14 0 x z = rDv 0 x z := by rw [rVo, if_neg (by decide), if_neg (by decide), if_neg (by decide), if_neg (by decide), if_neg (by decide), if_pos rfl]
    have e2 : wJo 32 x z = if z = 0 then -9223372036854775808 else x / z := by rw [wJo, if_neg (by decide), if_neg (by decide), if_neg (by decide), if_neg (by decide), if_neg (by decide), if_neg (by decide), if_neg (by decide), if_neg (by decide), if_neg (by decide), if_neg (by decide), if_neg (by decide), if_pos rfl]
    rw [e1, e2]
    by_cases z0 : z = 0
    · rw [if_pos z0]
      exact Or.inr ⟨0, by rw [rDv, if_pos (Or.inr z0)], wCk_x not_min r⟩
    · rw [if_neg z0]
      exact Or.inl ⟨x / z, by rw [rDv, if_neg (fun q => q.elim (fun y => y rfl) z0)], wCk_b (dv_b hx) r, dv_b hx⟩
