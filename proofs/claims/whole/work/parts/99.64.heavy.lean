/-! twists: the heaviest of a set -/
def wsN (f : Nat → Nat) (S : Nat) : Nat → Nat
  | 0 => 0
  | j + 1 => wsN f S j + (if S.testBit j = true then f j else 0)
theorem nD2_bit (S i k : Nat) : (nD S (2 ^ i)).testBit k = (S.testBit k && !decide (i = k)) := by rw [nD_bit, bit_2]
theorem nD2_at (S i : Nat) : (nD S (2 ^ i)).testBit i = false := by rw [nD2_bit]; simp
theorem nD2_ne {S i k : Nat} (h : k ≠ i) : (nD S (2 ^ i)).testBit k = S.testBit k := by rw [nD2_bit]; simp [Ne.symm h]
theorem wsN_del {f : Nat → Nat} {S i : Nat} (h : S.testBit i = true) : ∀ j, wsN f S j = wsN f (nD S (2 ^ i)) j + if i < j then f i else 0
  | 0 => by rw [if_neg (by omega)]; rfl
  | j + 1 => by
    rw [wsN, wsN, wsN_del h j]
    by_cases e : j = i
    · subst e
      rw [nD2_at, h, if_neg (show ¬ j < j by omega), if_pos (show j < j + 1 by omega)]; simp
    · rw [nD2_ne e]
      by_cases c : i < j
      · rw [if_pos c, if_pos (show i < j + 1 by omega)]; omega
      · rw [if_neg c, if_neg (show ¬ i < j + 1 by omega)]; omega
theorem pcT_del {S i : Nat} (h : S.testBit i = true) : ∀ j, pcT S j = pcT (nD S (2 ^ i)) j + if i < j then 1 else 0
  | 0 => by rw [if_neg (by omega)]; rfl
  | j + 1 => by
    rw [pcT, pcT, pcT_del h j]
    by_cases e : j = i
    · subst e
      rw [nD2_at, h, if_neg (by omega), if_pos (by omega)]; rfl
    · rw [nD2_ne e]
      by_cases c : i < j
      · rw [if_pos c, if_pos (by omega)]; omega
      · rw [if_neg c, if_neg (by omega)]; omega
theorem wsN_e {f : Nat → Nat} {S T : Nat} : ∀ j, (∀ k, k < j → S.testBit k = T.testBit k) → wsN f S j = wsN f T j
  | 0, _ => rfl
  | j + 1, h => by rw [wsN, wsN, wsN_e j (fun k hk => h k (by omega)), h j (by omega)]
theorem sbs_del {X S i : Nat} (h : sbs X S) : sbs (nD X (2 ^ i)) (nD S (2 ^ i)) := fun k hk => by
  rw [nD2_bit] at hk ⊢
  by_cases c : i = k
  · simp [c] at hk
  · have : X.testBit k = true := by simpa [c] using hk
    simp [c, h k this]
theorem sbs_d {S i : Nat} : sbs (nD S (2 ^ i)) S := fun k hk => by
  rw [nD2_bit] at hk
  by_cases c : i = k
  · simp [c] at hk
  · simpa [c] using hk
theorem sbs_tr {X S T : Nat} (h : sbs X S) (g : sbs S T) : sbs X T := fun k hk => g k (h k hk)
theorem sbs_out {X S i : Nat} (h : sbs X S) (hi : X.testBit i = false) : sbs X (nD S (2 ^ i)) := fun k hk => by
  by_cases c : k = i
  · rw [c, hi] at hk; exact absurd hk (by decide)
  · rw [nD2_ne c]; exact h k hk
/-- v is the most that c strands of S weigh -/
def isT (f : Nat → Nat) (c S v : Nat) : Prop := (∃ X, sbs X S ∧ pcT X 12 ≤ c ∧ wsN f X 12 = v) ∧ ∀ X, sbs X S → pcT X 12 ≤ c → wsN f X 12 ≤ v
theorem isT.un {f : Nat → Nat} {c S v v' : Nat} (h : isT f c S v) (g : isT f c S v') : v = v' := by
  obtain ⟨⟨X, a1, a2, a3⟩, a4⟩ := h
  obtain ⟨⟨Y, b1, b2, b3⟩, b4⟩ := g
  have := a4 Y b1 b2
  have := b4 X a1 a2
  omega
theorem pc_some {X : Nat} : ∀ j, pcT X j ≠ 0 → ∃ k, k < j ∧ X.testBit k = true
  | 0, h => absurd rfl h
  | j + 1, h => by
    by_cases c : X.testBit j = true
    · exact ⟨j, by omega, c⟩
    · have z : X.testBit j = false := by simpa using c
      rw [pcT, z] at h
      obtain ⟨k, k1, k2⟩ := pc_some (X := X) j (by simpa using h)
      exact ⟨k, by omega, k2⟩
theorem ws_none {f : Nat → Nat} {X : Nat} : ∀ j, pcT X j = 0 → wsN f X j = 0
  | 0, _ => rfl
  | j + 1, h => by
    rw [pcT] at h
    by_cases c : X.testBit j = true
    · rw [c] at h; simp at h
    · rw [wsN, if_neg c, ws_none j (by omega)]
theorem isT.z (f : Nat → Nat) (S : Nat) : isT f 0 S 0 := ⟨⟨0, fun k hk => absurd hk (by simp), by decide, ws_none 12 (by decide)⟩, fun X _ h => by rw [ws_none 12 (by omega)]; exact Nat.le_refl _⟩
theorem isT.s {f : Nat → Nat} {c S v i : Nat} (hi : i < 12) (hS : S.testBit i = true) (hm : ∀ k, k < 12 → S.testBit k = true → f k ≤ f i) (h : isT f c (nD S (2 ^ i)) v) : isT f (c + 1) S (v + f i) := by
  obtain ⟨⟨X, a1, a2, a3⟩, a4⟩ := h
  have xi : X.testBit i = false := by
    by_cases z : X.testBit i = true
    · have := a1 i z
      rw [nD2_at] at this; exact absurd this (by decide)
    · simpa using z
  refine ⟨⟨X ||| 2 ^ i, sbs_or (sbs_tr a1 sbs_d) hS, ?_, ?_⟩, fun Y hY hc => ?_⟩
  · rw [pcT_or xi, if_pos hi]; omega
  · rw [wsN_del (or2_at X i), if_pos hi, ← a3]
    congr 1
    refine wsN_e 12 (fun k hk => ?_)
    by_cases e : k = i
    · rw [e, nD2_at, xi]
    · rw [nD2_ne e, or2_ne e]
  · by_cases z : Y.testBit i = true
    · have p := pcT_del z 12
      rw [if_pos hi] at p
      have w := wsN_del (f := f) z 12
      rw [if_pos hi] at w
      have := a4 (nD Y (2 ^ i)) (sbs_del hY) (by omega)
      omega
    · have z' : Y.testBit i = false := by simpa using z
      by_cases p0 : pcT Y 12 = 0
      · rw [ws_none 12 p0]; omega
      · obtain ⟨k, k1, k2⟩ := pc_some 12 p0
        have p := pcT_del k2 12
        rw [if_pos k1] at p
        have w := wsN_del (f := f) k2 12
        rw [if_pos k1] at w
        have := a4 (nD Y (2 ^ k)) (sbs_tr sbs_d (sbs_out hY z')) (by omega)
        have := hm k k1 (hY k k2)
        omega
