/-! order: the mathematics -/
def sbs (S A : Nat) : Prop := ∀ k, S.testBit k = true → A.testBit k = true
theorem sbs_or {S A i : Nat} (h : sbs S A) (hi : A.testBit i = true) : sbs (S ||| 2 ^ i) A := fun k hk => by
  rw [or2_bit] at hk
  by_cases c : i = k
  · rw [← c]; exact hi
  · exact h k (by simpa [c] using hk)
section OE
variable {ok ok' : Nat → Nat → Prop} {A : Nat}
theorem cE_c (h : ∀ S i, sbs S A → A.testBit i = true → S.testBit i = false → (ok S i ↔ ok' S i)) : ∀ c S, sbs S A → (cE ok A c S ↔ cE ok' A c S)
  | 0, _, _ => Iff.rfl
  | c + 1, S, hS => by
    constructor
    · rintro (z | ⟨i, z1, z2, z3, z4, z5⟩)
      · exact Or.inl z
      · exact Or.inr ⟨i, z1, z2, z3, (h S i hS z2 z3).mp z4, (cE_c h c _ (sbs_or hS z2)).mp z5⟩
    · rintro (z | ⟨i, z1, z2, z3, z4, z5⟩)
      · exact Or.inl z
      · exact Or.inr ⟨i, z1, z2, z3, (h S i hS z2 z3).mpr z4, (cE_c h c _ (sbs_or hS z2)).mpr z5⟩
theorem eE_c (h : ∀ S i, sbs S A → A.testBit i = true → S.testBit i = false → (ok S i ↔ ok' S i)) {S : Nat} (hS : sbs S A) : eE ok A S ↔ eE ok' A S := ⟨fun ⟨c, z⟩ => ⟨c, (cE_c h c S hS).mp z⟩, fun ⟨c, z⟩ => ⟨c, (cE_c h c S hS).mpr z⟩⟩
theorem nxE_c (h : ∀ S i, sbs S A → A.testBit i = true → S.testBit i = false → (ok S i ↔ ok' S i)) {S : Nat} (hS : sbs S A) : nxE ok A S = nxE ok' A S := by
  have : gE ok A S = gE ok' A S := funext fun i => propext (by
    unfold gE
    constructor
    · rintro ⟨z1, z2, z3, z4⟩
      exact ⟨z1, z2, (h S i hS z1 z2).mp z3, (eE_c h (sbs_or hS z1)).mp z4⟩
    · rintro ⟨z1, z2, z3, z4⟩
      exact ⟨z1, z2, (h S i hS z1 z2).mpr z3, (eE_c h (sbs_or hS z1)).mpr z4⟩)
  unfold nxE
  rw [this]
theorem fstE_g {p : Nat → Prop} : ∀ c j, (∃ i, j ≤ i ∧ i < j + c ∧ p i) → p (fstE p c j) ∧ fstE p c j < j + c
  | 0, j, ⟨i, z1, z2, _⟩ => absurd z2 (by omega)
  | c + 1, j, ⟨i, z1, z2, z3⟩ => by
    unfold fstE
    by_cases d : p j
    · rw [if_pos d]; exact ⟨d, by omega⟩
    · rw [if_neg d]
      have := fstE_g (p := p) c (j + 1) ⟨i, by
        by_cases e : i = j
        · subst e; exact absurd z3 d
        · omega, by omega, z3⟩
      exact ⟨this.1, by omega⟩
theorem nxE_g {S : Nat} (h : eE ok A S) (hne : S ≠ A) : gE ok A S (nxE ok A S) ∧ nxE ok A S < 12 := by
  rcases (eE_iff ok A S).mp h with z | ⟨i, z1, z2⟩
  · exact absurd z hne
  · have := fstE_g (p := gE ok A S) 12 0 ⟨i, by omega, by omega, z2⟩
    exact ⟨this.1, by have := this.2; rw [Nat.zero_add] at this; exact this⟩
theorem rOw_e (h : ∀ S i, sbs S A → A.testBit i = true → S.testBit i = false → (ok S i ↔ ok' S i)) {q : Nat} (hq : q < pcT A 12) : ∀ c S i, sbs S A → eE ok A S → pcT S 12 = i → i ≤ q → q < i + c → rOw ok' A (nI q) c S i = nI (nxE ok A (ptE ok A S (q - i)))
  | 0, S, i, _, _, _, z1, z2 => absurd z2 (by omega)
  | c + 1, S, i, hS, hE, hp, hi, hc => by
    have ne : S ≠ A := fun z => by rw [z] at hp; omega
    have a12 := pcT_le A 12
    obtain ⟨⟨g1, g2, g3, g4⟩, g5⟩ := nxE_g hE ne
    rw [rOw, if_neg ne]
    by_cases e : i = q
    · subst e
      rw [if_pos rfl, Nat.sub_self, ← nxE_c h hS]; rfl
    · rw [if_neg (fun z => e (nI_ij (by omega) (by omega) z)), ← nxE_c h hS, rOw_e h hq c _ (i + 1) (sbs_or hS g1) g4 (by rw [pcT_or g2, if_pos g5, hp]) (by omega) (by omega), show q - i = (q - (i + 1)) + 1 by omega, ptE_s]
theorem rOw_k (h : ∀ S i, sbs S A → A.testBit i = true → S.testBit i = false → (ok S i ↔ ok' S i)) {q : Nat} (hq31 : q < 2 ^ 31) (hq : pcT A 12 ≤ q) (hA : A < 2 ^ 12) : ∀ c S i, sbs S A → eE ok A S → pcT S 12 = i → rOw ok' A (nI q) c S i = -2
  | 0, _, _, _, _, _ => rfl
  | c + 1, S, i, hS, hE, hp => by
    rw [rOw]
    by_cases ne : S = A
    · rw [if_pos ne]
    · obtain ⟨⟨g1, g2, g3, g4⟩, g5⟩ := nxE_g hE ne
      have lt := pcT_lt hS g1 g2 12 g5
      have a12 := pcT_le A 12
      rw [if_neg ne, if_neg (fun z => absurd (nI_ij (by omega) (by omega) z) (by omega)), ← nxE_c h hS]
      exact rOw_k h hq31 hq hA c _ (i + 1) (sbs_or hS g1) g4 (by rw [pcT_or g2, if_pos g5, hp])
theorem order_e (h : ∀ S i, sbs S A → A.testBit i = true → S.testBit i = false → (ok S i ↔ ok' S i)) (hA : A < 2 ^ 12) {q : Nat} (hq31 : q < 2 ^ 31) : (q < pcT A 12 → sOr ok A q = rOr ok' A (nI q)) ∧ (pcT A 12 ≤ q → rOr ok' A (nI q) = -2) := by
  have s0 : sbs 0 A := fun k hk => absurd hk (by simp)
  have p0 : pcT 0 12 = 0 := by decide
  have a12 := pcT_le A 12
  by_cases c : eE ok A 0
  · refine ⟨fun hq => ?_, fun hq => ?_⟩
    · rw [sOr_t c, rOr_t ((eE_c h s0).mp c), rOw_e h hq 13 0 0 s0 c p0 (by omega) (by omega), Nat.sub_zero]
    · rw [rOr_t ((eE_c h s0).mp c)]; exact rOw_k h hq31 hq hA 13 0 0 s0 c p0
  · refine ⟨fun hq => ?_, fun hq => ?_⟩
    · rw [sOr_f c, rOr_f (fun z => c ((eE_c h s0).mpr z))]
    · exact rOr_f (fun z => c ((eE_c h s0).mpr z))
end OE
theorem vE.pv {np n m : Nat} {V W : Nat → Nat → Int32} (h : vE np n m V W) (hb : Bd np n V) (S : Nat) : ∀ j, j ≤ n → vE np n m (pV V S j) (pV W S j) ∧ Bd np n (pV V S j)
  | 0, _ => ⟨h, hb⟩
  | j + 1, hj => by
    obtain ⟨i1, i2⟩ := h.pv hb S j (by omega)
    rw [pV, pV]
    split
    · exact ⟨i1.pay i2 (by omega), i2.pay j⟩
    · exact ⟨i1, i2⟩
theorem pay_ok {np n m : Nat} {V W : Nat → Nat → Int32} (h : vE np n m V W) (hv : Vok V n) (hb : Bd np n V) (L : Nat → (Nat → Int64) → Int64) (w : Int32) {A : Nat} (hA : A < 2 ^ n) (hN : ∀ i, A.testBit i = true → V 9 i = 0) : ∀ S i, sbs S A → A.testBit i = true → S.testBit i = false → (cOk V L n w S i ↔ rCP W L n w S i) := by
  intro S i hS hi hs
  have n12 := hv.1
  have hin : i < n := Classical.byContradiction fun z => by
    rw [Nat.testBit_lt_two_pow (Nat.lt_of_lt_of_le hA (Nat.pow_le_pow_right (by omega) (by omega)))] at hi
    exact absurd hi (by decide)
  have hSn : S < 2 ^ n := Nat.lt_of_le_of_lt (sub_le hS) hA
  have e1 : pV V S n = vS V S := by rw [pV_vS V S n n12, Nat.mod_eq_of_lt hSn]
  obtain ⟨x1, x2⟩ := h.pv hb S n (Nat.le_refl _)
  rw [e1] at x1 x2
  have hX := hv.vS S
  unfold cOk rCP
  rw [← vS_pay V (by omega) hs]
  have p := x1.pay x2 hin
  rw [← p.br (hX.pay i) (x2.pay i) (LL.rf L) n (Nat.le_refl _)]
  have w1 := x1.2.1 i hin
  have w2 := (x1.1 _ (vlt (x2 i hin).1)).1
  rw [← w1.1, ← w1.2.2.1, ← w2]
  have th : sTh (vS V S) (nI i) := (hX.t hin).mpr (by rw [vS_9, hs]; exact hN i hi)
  have ci := hX.c hin
  constructor
  · rintro ⟨z1, z2⟩
    have z3 := z1.2
    rw [ci] at z3
    exact ⟨z3, z2⟩
  · rintro ⟨z1, z2⟩
    exact ⟨⟨th, by rw [ci]; exact z1⟩, z2⟩
