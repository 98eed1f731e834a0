/-! paying strands one after another: what is left behind depends on the set alone -/
def bS (f : Nat → Int32) (S : Nat) : Nat → Int32
  | 0 => 0
  | j + 1 => if S.testBit j then bS f S j + f j else bS f S j
theorem bS_ext {f g : Nat → Int32} {S T : Nat} : ∀ j, (∀ i, i < j → f i = g i) → (∀ i, i < j → S.testBit i = T.testBit i) → bS f S j = bS g T j
  | 0, _, _ => rfl
  | j + 1, h1, h2 => by
    unfold bS
    rw [bS_ext j (fun i hi => h1 i (by omega)) (fun i hi => h2 i (by omega)), h1 j (by omega), h2 j (by omega)]
theorem or2_bit (S i k : Nat) : (S ||| 2 ^ i).testBit k = (S.testBit k || decide (i = k)) := by rw [Nat.testBit_or, bit_2]
theorem or2_ne {S i k : Nat} (h : k ≠ i) : (S ||| 2 ^ i).testBit k = S.testBit k := by rw [or2_bit]; simp [Ne.symm h]
theorem or2_at (S i : Nat) : (S ||| 2 ^ i).testBit i = true := by rw [or2_bit]; simp
theorem bS_or {f : Nat → Int32} {S i : Nat} (h : S.testBit i = false) : ∀ j, bS f (S ||| 2 ^ i) j = if i < j then bS f S j + f i else bS f S j
  | 0 => rfl
  | j + 1 => by
    unfold bS
    rw [bS_or h j]
    by_cases hij : i = j
    · subst hij
      rw [or2_at, h]
      simp
    · rw [or2_ne (Ne.symm hij)]
      by_cases hlt : i < j
      · rw [if_pos hlt, if_pos (show i < j + 1 by omega)]
        split
        · simp only [Int32.add_assoc, Int32.add_comm (f i)]
        · rfl
      · rw [if_neg hlt, if_neg (show ¬ i < j + 1 by omega)]
def vS (N : Nat → Nat → Int32) (S : Nat) : Nat → Nat → Int32 := fun f k =>
  if f = 1 then N 1 k + bS (fun i => (if (N 4 i).toNatClampNeg = k then N 5 i else 0) - (if (N 3 i).toNatClampNeg = k then N 5 i else 0)) S 12
  else if f = 9 ∧ S.testBit k = true then 1 else N f k
theorem vS_n (N : Nat → Nat → Int32) (S : Nat) {f : Nat} (h1 : f ≠ 1) (h9 : f ≠ 9) : vS N S f = N f := by funext k; simp [vS, h1, h9]
theorem vS_9 (N : Nat → Nat → Int32) (S k : Nat) : vS N S 9 k = if S.testBit k = true then 1 else N 9 k := by simp [vS]
theorem vS_1 (N : Nat → Nat → Int32) (S k : Nat) : vS N S 1 k = N 1 k + bS (fun i => (if (N 4 i).toNatClampNeg = k then N 5 i else 0) - (if (N 3 i).toNatClampNeg = k then N 5 i else 0)) S 12 := by simp [vS]
theorem Vok.vS {N : Nat → Nat → Int32} {n : Nat} (h : Vok N n) (S : Nat) : Vok (vS N S) n := by
  obtain ⟨a1, a2, a3, a4⟩ := h
  refine ⟨a1, ?_, fun q => ?_, fun q => ?_⟩
  · rw [vS_n N S (by decide) (by decide)]; exact a2
  · rw [vS_n N S (by decide) (by decide)]; exact a3 q
  · rw [vS_n N S (by decide) (by decide)]; exact a4 q
theorem vS_0 (N : Nat → Nat → Int32) : vS N 0 = N := by
  funext f k
  have h0 : ∀ (g : Nat → Int32) j, bS g 0 j = 0 := by
    intro g j
    induction j with
    | zero => rfl
    | succ j ih => unfold bS; rw [Nat.zero_testBit]; simpa using ih
  unfold vS
  split
  · rename_i h; rw [h0, h]; simp
  · rw [if_neg (by simp)]
theorem mv_at (V : Nat → Nat → Int32) (a c : Nat) (w : Int32) (k : Nat) : sMv V a c w 1 k = V 1 k + ((if c = k then w else 0) - (if a = k then w else 0)) := by
  unfold sMv
  simp only [xu, true_and]
  by_cases h1 : k = c
  · subst h1
    by_cases h2 : k = a
    · subst h2; simp
    · rw [if_pos rfl, if_neg h2, if_pos rfl, if_neg (Ne.symm h2)]; grind
  · rw [if_neg h1, if_neg (Ne.symm h1)]
    by_cases h2 : k = a
    · subst h2; rw [if_pos rfl, if_pos rfl]; grind
    · rw [if_neg h2, if_neg (Ne.symm h2)]; grind
theorem mvB_at (V : Nat → Nat → Int32) (a c : Nat) (w : Int32) (k : Nat) : sMvB V a c w 1 k = V 1 k - ((if c = k then w else 0) - (if a = k then w else 0)) := by
  unfold sMvB
  simp only [xu, true_and]
  by_cases h1 : k = c
  · subst h1
    by_cases h2 : k = a
    · subst h2; simp
    · rw [if_pos rfl, if_neg h2, if_pos rfl, if_neg (Ne.symm h2)]; grind
  · rw [if_neg h1, if_neg (Ne.symm h1)]
    by_cases h2 : k = a
    · subst h2; rw [if_pos rfl, if_pos rfl]; grind
    · rw [if_neg h2, if_neg (Ne.symm h2)]; grind
theorem mv_o (V : Nat → Nat → Int32) (a c : Nat) (w : Int32) {f : Nat} (h : f ≠ 1) (k : Nat) : sMv V a c w f k = V f k := by simp [sMv, xu, h]
theorem mvB_o (V : Nat → Nat → Int32) (a c : Nat) (w : Int32) {f : Nat} (h : f ≠ 1) (k : Nat) : sMvB V a c w f k = V f k := by simp [sMvB, xu, h]
theorem vS_pay (N : Nat → Nat → Int32) {S i : Nat} (hi : i < 12) (h : S.testBit i = false) : sPay (vS N S) i = vS N (S ||| 2 ^ i) := by
  unfold sPay
  rw [vS_n N S (f := 3) (by decide) (by decide), vS_n N S (f := 4) (by decide) (by decide), vS_n N S (f := 5) (by decide) (by decide)]
  funext f k
  by_cases h1 : f = 1
  · subst h1
    rw [xu_f _ _ (by decide), mv_at, vS_1, vS_1, bS_or h, if_pos hi, Int32.add_assoc]
  · by_cases h9 : f = 9
    · subst h9
      by_cases hk : k = i
      · subst hk; rw [xu_s, vS_9, or2_at]; rfl
      · rw [show xu (sMv (vS N S) (N 3 i).toNatClampNeg (N 4 i).toNatClampNeg (N 5 i)) 9 i 1 9 k = sMv (vS N S) (N 3 i).toNatClampNeg (N 4 i).toNatClampNeg (N 5 i) 9 k from by simp [xu, hk], mv_o _ _ _ _ (by decide), vS_9, vS_9, or2_ne hk]
    · rw [xu_f _ _ h9, mv_o _ _ _ _ h1, vS_n N S h1 h9, vS_n N _ h1 h9]
theorem vS_back (N : Nat → Nat → Int32) {S i : Nat} (hi : i < 12) (h : S.testBit i = false) (h0 : N 9 i = 0) : sBack (vS N (S ||| 2 ^ i)) i = vS N S := by
  unfold sBack
  rw [vS_n N _ (f := 3) (by decide) (by decide), vS_n N _ (f := 4) (by decide) (by decide), vS_n N _ (f := 5) (by decide) (by decide)]
  funext f k
  by_cases h1 : f = 1
  · subst h1
    rw [xu_f _ _ (by decide), mvB_at, vS_1, vS_1, bS_or h, if_pos hi]
    generalize bS _ S 12 = x
    grind
  · by_cases h9 : f = 9
    · subst h9
      by_cases hk : k = i
      · subst hk; rw [xu_s, vS_9, h, h0]; rfl
      · rw [show xu (sMvB (vS N (S ||| 2 ^ i)) (N 3 i).toNatClampNeg (N 4 i).toNatClampNeg (N 5 i)) 9 i 0 9 k = sMvB (vS N (S ||| 2 ^ i)) (N 3 i).toNatClampNeg (N 4 i).toNatClampNeg (N 5 i) 9 k from by simp [xu, hk], mvB_o _ _ _ _ (by decide), vS_9, vS_9, or2_ne hk]
    · rw [xu_f _ _ h9, mvB_o _ _ _ _ h1, vS_n N S h1 h9, vS_n N _ h1 h9]
/-! sets from which all can be paid; ok S i: from the set S the strand i can be paid, and the load is borne behind it -/
def cE (ok : Nat → Nat → Prop) (A : Nat) : Nat → Nat → Prop
  | 0, S => S = A
  | c + 1, S => S = A ∨ ∃ i, i < 12 ∧ A.testBit i = true ∧ S.testBit i = false ∧ ok S i ∧ cE ok A c (S ||| 2 ^ i)
theorem cE_up (ok : Nat → Nat → Prop) (A : Nat) : ∀ c S, cE ok A c S → cE ok A (c + 1) S
  | 0, _, h => Or.inl h
  | c + 1, _, h => by
    rcases h with h | ⟨i, h1, h2, h3, h4, h5⟩
    · exact Or.inl h
    · exact Or.inr ⟨i, h1, h2, h3, h4, cE_up ok A c _ h5⟩
def eE (ok : Nat → Nat → Prop) (A S : Nat) : Prop := ∃ c, cE ok A c S
/-- the strand i is a good next step from S -/
def gE (ok : Nat → Nat → Prop) (A S i : Nat) : Prop := A.testBit i = true ∧ S.testBit i = false ∧ ok S i ∧ eE ok A (S ||| 2 ^ i)
theorem eE_iff (ok : Nat → Nat → Prop) (A S : Nat) : eE ok A S ↔ S = A ∨ ∃ i, i < 12 ∧ gE ok A S i := by
  constructor
  · rintro ⟨c, h⟩
    match c, h with
    | 0, h => exact Or.inl h
    | c + 1, Or.inl h => exact Or.inl h
    | c + 1, Or.inr ⟨i, h1, h2, h3, h4, h5⟩ => exact Or.inr ⟨i, h1, h2, h3, h4, c, h5⟩
  · rintro (h | ⟨i, h1, h2, h3, h4, c, h5⟩)
    · exact ⟨0, h⟩
    · exact ⟨c + 1, Or.inr ⟨i, h1, h2, h3, h4, h5⟩⟩
/-- the first good step from j on -/
noncomputable def fstE (p : Nat → Prop) : Nat → Nat → Nat
  | 0, j => j
  | c + 1, j => @ite _ (p j) (Classical.propDecidable _) j (fstE p c (j + 1))
theorem fstE_at {p : Nat → Prop} : ∀ c j i, i < j + c → j ≤ i → p i → (∀ q, j ≤ q → q < i → ¬ p q) → fstE p c j = i
  | 0, j, i, h1, h2, _, _ => by omega
  | c + 1, j, i, h1, h2, hp, hn => by
    unfold fstE
    by_cases h : j = i
    · subst h; rw [if_pos hp]
    · rw [if_neg (hn j (Nat.le_refl _) (by omega))]
      exact fstE_at c (j + 1) i (by omega) (by omega) hp (fun q h3 h4 => hn q (by omega) h4)
noncomputable def nxE (ok : Nat → Nat → Prop) (A S : Nat) : Nat := fstE (gE ok A S) 12 0
theorem nxE_at {ok : Nat → Nat → Prop} {A S i : Nat} (hi : i < 12) (h : gE ok A S i) (hn : ∀ q, q < i → ¬ gE ok A S q) : nxE ok A S = i := fstE_at 12 0 i (by omega) (by omega) h (fun q _ hq => hn q hq)
noncomputable def ptE (ok : Nat → Nat → Prop) (A S : Nat) : Nat → Nat
  | 0 => S
  | j + 1 => ptE ok A S j ||| 2 ^ nxE ok A (ptE ok A S j)
theorem ptE_s (ok : Nat → Nat → Prop) (A S : Nat) : ∀ j, ptE ok A S (j + 1) = ptE ok A (S ||| 2 ^ nxE ok A S) j
  | 0 => rfl
  | j + 1 => by rw [ptE, ptE_s ok A S j]; rfl
/-- how many strands a set has -/
def pcT (S : Nat) : Nat → Nat
  | 0 => 0
  | j + 1 => pcT S j + (S.testBit j).toNat
theorem pcT_or {S i : Nat} (h : S.testBit i = false) : ∀ j, pcT (S ||| 2 ^ i) j = if i < j then pcT S j + 1 else pcT S j
  | 0 => rfl
  | j + 1 => by
    unfold pcT
    rw [pcT_or h j]
    by_cases hij : i = j
    · subst hij; rw [or2_at, h]; simp
    · rw [or2_ne (Ne.symm hij)]
      by_cases hlt : i < j
      · rw [if_pos hlt, if_pos (show i < j + 1 by omega)]; omega
      · rw [if_neg hlt, if_neg (show ¬ i < j + 1 by omega)]
theorem pcT_le (S : Nat) : ∀ j, pcT S j ≤ j
  | 0 => Nat.le_refl _
  | j + 1 => by
    unfold pcT
    have := pcT_le S j
    cases S.testBit j <;> simp <;> omega
theorem pcT_mono {S A : Nat} (h : ∀ k, S.testBit k = true → A.testBit k = true) : ∀ j, pcT S j ≤ pcT A j
  | 0 => Nat.le_refl _
  | j + 1 => by
    unfold pcT
    have := pcT_mono h j
    cases hs : S.testBit j
    · simp; omega
    · rw [h j hs]; omega
theorem pcT_lt {S A : Nat} (h : ∀ k, S.testBit k = true → A.testBit k = true) {i : Nat} (ha : A.testBit i = true) (hs : S.testBit i = false) : ∀ j, i < j → pcT S j < pcT A j
  | 0, hi => by omega
  | j + 1, hi => by
    unfold pcT
    by_cases hij : i = j
    · subst hij
      rw [ha, hs]
      have := pcT_mono h i
      simp; omega
    · have h1 := pcT_lt h ha hs j (by omega)
      cases hs' : S.testBit j
      · simp; omega
      · rw [h j hs']; omega
theorem sub_ne {S A : Nat} (hA : A < 2 ^ 12) (h : ∀ k, S.testBit k = true → A.testBit k = true) (hne : S ≠ A) : ∃ i, i < 12 ∧ A.testBit i = true ∧ S.testBit i = false := by
  apply Classical.byContradiction
  intro hn
  apply hne
  apply Nat.eq_of_testBit_eq
  intro i
  cases hs : S.testBit i
  · cases ha : A.testBit i
    · rfl
    · exact absurd ⟨i, bit_lt hA ha, ha, hs⟩ hn
  · rw [h i hs]
/-- bits of a word of 32 -/
abbrev dB (x : Int32) (k : Nat) : Prop := (x >>> (nI k &&& 31)) &&& 1 = 1
theorem sm32 : ∀ k : Nat, k < 32 → ((nI k &&& 31).toBitVec.smod 32).toNat = k := by decide
theorem dB_iff (x : Int32) {k : Nat} (hk : k < 32) : dB x k ↔ x.toBitVec.getLsbD k = true := by
  unfold dB
  rw [← Int32.toBitVec_inj, Int32.toBitVec_and, Int32.toBitVec_shiftRight, show (1 : Int32).toBitVec = 1#32 from rfl]
  have e : x.toBitVec.sshiftRight' ((nI k &&& 31).toBitVec.smod 32) = x.toBitVec.sshiftRight k := by
    rw [BitVec.sshiftRight', sm32 k hk]
  rw [e]
  constructor
  · intro h
    have h2 := congrArg (fun z => BitVec.getLsbD z 0) h
    simp only [BitVec.getLsbD_and, BitVec.getLsbD_sshiftRight] at h2
    simp [hk] at h2
    exact h2
  · intro h
    apply BitVec.eq_of_getLsbD_eq
    intro i hi
    rw [BitVec.getLsbD_and, BitVec.getLsbD_sshiftRight]
    by_cases h0 : i = 0
    · subst h0
      simp [hk, h]
    · have : (1#32).getLsbD i = false := by
        rw [BitVec.getLsbD_one]
        simp [h0]
      rw [this]; simp
theorem dB_shl (k j : Nat) (hk : k < 32) (hj : j < 32) : ((1 : Int32) <<< (nI k &&& 31)).toBitVec.getLsbD j = decide (j = k) := by
  have h : ∀ k : Fin 32, ∀ j : Fin 32, ((1 : Int32) <<< (nI k &&& 31)).toBitVec.getLsbD j = decide ((j : Nat) = (k : Nat)) := by decide +kernel
  exact h ⟨k, hk⟩ ⟨j, hj⟩
theorem dB_or (x : Int32) {k j : Nat} (hk : k < 32) (hj : j < 32) : dB (x ||| (1 <<< (nI k &&& 31))) j ↔ dB x j ∨ j = k := by
  rw [dB_iff _ hj, dB_iff _ hj, Int32.toBitVec_or, BitVec.getLsbD_or, dB_shl k j hk hj]
  simp
theorem dB_zero {k : Nat} (hk : k < 32) : ¬ dB 0 k := by
  rw [dB_iff _ hk]; simp
