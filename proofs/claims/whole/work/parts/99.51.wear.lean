/-! years -/
theorem in0.w99 {v : Int64} {wo : Int32} (h : in0 wo 0 99) : in0 (sWl v 99 wo) 0 99 := by
  unfold sWl
  by_cases c1 : v = -9223372036854775808
  · rw [if_pos c1]; exact h
  · rw [if_neg c1]
    by_cases c2 : v < 0
    · rw [if_pos c2]; exact ⟨0, by omega, by omega, rfl⟩
    · rw [if_neg c2]
      by_cases c3 : (99 : Int32).toInt64 < v
      · rw [if_pos c3]; exact ⟨99, by omega, by omega, rfl⟩
      · rw [if_neg c3]
        have z2 : ¬ v.toInt < (0 : Int64).toInt := fun z => c2 (Int64.lt_iff_toInt_lt.mpr z)
        have z3 : ¬ (99 : Int32).toInt64.toInt < v.toInt := fun z => c3 (Int64.lt_iff_toInt_lt.mpr z)
        have e0 : (0 : Int64).toInt = 0 := by decide
        have e1 : (99 : Int32).toInt64.toInt = 99 := by decide
        refine ⟨v.toInt.toNat, by omega, by omega, Int32.toInt_inj.mp ?_⟩
        rw [nIi (by omega), Int64.toInt_toInt32]
        have : v.toInt.bmod (2 ^ 32) = v.toInt := by rw [Int.bmod_def]; split <;> omega
        omega
theorem in0.lt {x : Int32} {a b c : Nat} (h : in0 x a b) (hb : b < 2 ^ 31) (hc : c < 2 ^ 31) (hx : x < nI (c + 1)) (hc2 : c + 1 < 2 ^ 31) : in0 x a c := by
  obtain ⟨n, h1, h2, rfl⟩ := h
  have := Int32.lt_iff_toInt_lt.mp hx
  rw [nIi (by omega), nIi (by omega)] at this
  exact ⟨n, h1, by omega, rfl⟩
/-- worn rows as they may stand -/
def zF (V : Nat → Nat → Int32) : Prop := ∀ j, j < 12 → in0 (V 6 j) 0 198
theorem Vw.of {n : Nat} {V V' : Nat → Nat → Int32} (h : Vw n V) (e : ∀ f k, (f = 5 ∨ f = 6 ∨ f = 9) → V' f k = V f k) : Vw n V' := fun j hj z => by
  rw [e 9 j (by omega)] at z
  rw [e 5 j (by omega), e 6 j (by omega)]; exact h j hj z
theorem stC_k (V : Nat → Nat → Int32) (L : Nat → (Nat → Int64) → Int64) (n : Nat) (T : Nat → Nat → Int32) (j : Nat) {f k : Nat} (h1 : f ≠ 2) (h2 : f ≠ 11) : stC V L n T j f k = V f k := by
  unfold stC
  split
  · split
    · exact xu_f _ _ h2
    · rw [xu_f _ _ h1, xu_f _ _ h2]
  · rfl
theorem sCA_k (V : Nat → Nat → Int32) (L : Nat → (Nat → Int64) → Int64) (n : Nat) (T : Nat → Nat → Int32) {f k : Nat} (h1 : f ≠ 2) (h2 : f ≠ 11) : ∀ j, sCA V L n T j f k = V f k
  | 0 => rfl
  | j + 1 => by rw [sCA, stC_k _ _ _ _ _ h1 h2]; exact sCA_k V L n T h1 h2 j
theorem sFr_k (V : Nat → Nat → Int32) (i w : Int32) {f k : Nat} (h1 : f ≠ 6) (h2 : f ≠ 9) : sFr V i w f k = V f k := by
  unfold sFr
  split
  · split
    · exact xu_f _ _ h1
    · rw [xu_f _ _ h2, xu_f _ _ h1]
  · rfl
theorem stF_k (V : Nat → Nat → Int32) (L : Nat → (Nat → Int64) → Int64) (j : Nat) {f k : Nat} (h1 : f ≠ 6) (h2 : f ≠ 9) : stF V L j f k = V f k := by
  unfold stF
  split
  · exact sFr_k _ _ _ h1 h2
  · rfl
theorem sFA_k (V : Nat → Nat → Int32) (L : Nat → (Nat → Int64) → Int64) {f k : Nat} (h1 : f ≠ 6) (h2 : f ≠ 9) : ∀ j, sFA V L j f k = V f k
  | 0 => rfl
  | j + 1 => by rw [sFA, stF_k _ _ _ h1 h2]; exact sFA_k V L h1 h2 j
theorem stG_k (V : Nat → Nat → Int32) (L : Nat → (Nat → Int64) → Int64) (j : Nat) {f k : Nat} (h1 : f ≠ 5) : stG V L j f k = V f k := by
  unfold stG
  split
  · exact xu_f _ _ h1
  · rfl
theorem sGA_k (V : Nat → Nat → Int32) (L : Nat → (Nat → Int64) → Int64) {f k : Nat} (h1 : f ≠ 5) : ∀ j, sGA V L j f k = V f k
  | 0 => rfl
  | j + 1 => by rw [sGA, stG_k _ _ _ h1]; exact sGA_k V L h1 j
theorem stP_k (V : Nat → Nat → Int32) (j : Nat) {f k : Nat} (h1 : f ≠ 1) (h2 : f ≠ 9) : stP V j f k = V f k := by
  unfold stP
  split
  · split
    · rfl
    · exact sPay_o _ _ h1 (fun z => h2 z.1)
  · rfl
theorem sPA_k (V : Nat → Nat → Int32) {f k : Nat} (h1 : f ≠ 1) (h2 : f ≠ 9) : ∀ j, sPA V j f k = V f k
  | 0 => rfl
  | j + 1 => by rw [sPA, stP_k _ _ h1 h2]; exact sPA_k V h1 h2 j
theorem sGo_k (V : Nat → Nat → Int32) (L : Nat → (Nat → Int64) → Int64) (n : Nat) (T : Nat → Nat → Int32) (m : Nat) (lo : Int32) {f k : Nat} (h : f = 3 ∨ f = 4 ∨ f = 7 ∨ f = 8 ∨ f = 10 ∨ f = 12 ∨ f = 13 ∨ f = 14) : sGo V L n T m lo f k = V f k := by
  unfold sGo
  show xu _ 15 0 _ f k = _
  rw [xu_f _ _ (by omega)]
  have a1 := sCA_k V L n T (f := f) (k := k) (by omega) (by omega) m
  have a2 : (if lo = 0 then sCA V L n T m else sFA (sCA V L n T m) L n) f k = V f k := by
    split
    · exact a1
    · rw [sFA_k _ _ (by omega) (by omega)]; exact a1
  have a3 : (if lo = 4 then (if lo = 0 then sCA V L n T m else sFA (sCA V L n T m) L n) else sGA (if lo = 0 then sCA V L n T m else sFA (sCA V L n T m) L n) L n) f k = V f k := by
    split
    · exact a2
    · rw [sGA_k _ _ (by omega)]; exact a2
  show (if lo = 1 then _ else sPA _ n) f k = _
  split
  · exact a3
  · rw [sPA_k _ (by omega) (by omega)]; exact a3
theorem sGo_15 (V : Nat → Nat → Int32) (L : Nat → (Nat → Int64) → Int64) (n : Nat) (T : Nat → Nat → Int32) (m : Nat) (lo : Int32) : sGo V L n T m lo 15 0 = V 15 0 + 1 := by
  unfold sGo
  show xu _ 15 0 _ 15 0 = _
  rw [xu_s]
  congr 1
  have a1 := sCA_k V L n T (f := 15) (k := 0) (by omega) (by omega) m
  have a2 : (if lo = 0 then sCA V L n T m else sFA (sCA V L n T m) L n) 15 0 = V 15 0 := by
    split
    · exact a1
    · rw [sFA_k _ _ (by omega) (by omega)]; exact a1
  have a3 : (if lo = 4 then (if lo = 0 then sCA V L n T m else sFA (sCA V L n T m) L n) else sGA (if lo = 0 then sCA V L n T m else sFA (sCA V L n T m) L n) L n) 15 0 = V 15 0 := by
    split
    · exact a2
    · rw [sGA_k _ _ (by omega)]; exact a2
  show (if lo = 1 then _ else sPA _ n) 15 0 = _
  split
  · exact a3
  · rw [sPA_k _ (by omega) (by omega)]; exact a3
theorem Vw.F {n : Nat} {V : Nat → Nat → Int32} (h : Vw n V) (hn : n ≤ 12) (L : Nat → (Nat → Int64) → Int64) {j : Nat} (hj : j < n) : Vw n (stF V L j) ∧ (zF V → zF (stF V L j)) := by
  unfold stF
  by_cases c : V 9 j = 0
  · rw [if_pos c]
    have cj : (nI j).toNatClampNeg = j := nI_clamp (by omega)
    have w := in0.w99 (v := L 1 (sNm V (nI j) (sTwo V (nI j)))) (wo := 2) ⟨2, by omega, by omega, rfl⟩
    generalize sWl (L 1 (sNm V (nI j) (sTwo V (nI j)))) 99 2 = w0 at w
    have g := (h j hj c).2
    have g2 : in0 (V 6 j + w0) 0 198 := g.ad w (by omega)
    unfold sFr
    by_cases c1 : sTh V (nI j)
    · rw [if_pos c1]
      by_cases c2 : V 6 (nI j).toNatClampNeg + w0 < 100
      · rw [if_pos c2, cj]
        rw [cj] at c2
        refine ⟨fun k hk z => ?_, fun hz k hk => ?_⟩
        · rw [xu_f _ _ (by decide)] at z
          rw [xu_f _ _ (by decide)]
          by_cases e : k = j
          · subst e; rw [xu_s]; exact ⟨(h k hk z).1, g2.lt (by omega) (by omega) c2 (by omega)⟩
          · rw [xu_ne (by omega)]; exact h k hk z
        · by_cases e : k = j
          · subst e; rw [xu_s]; exact g2
          · rw [xu_ne (by omega)]; exact hz k hk
      · rw [if_neg c2, cj]
        refine ⟨fun k hk z => ?_, fun hz k hk => ?_⟩
        · by_cases e : k = j
          · subst e; rw [xu_s] at z; exact absurd z (by decide)
          · rw [xu_ne (by omega), xu_f _ _ (by decide)] at z
            rw [xu_f _ _ (by decide), xu_f _ _ (by decide), xu_f _ _ (by decide), xu_ne (by omega)]; exact h k hk z
        · rw [xu_f _ _ (by decide)]
          by_cases e : k = j
          · subst e; rw [xu_s]; exact g2
          · rw [xu_ne (by omega)]; exact hz k hk
    · rw [if_neg c1]; exact ⟨h, fun z => z⟩
  · rw [if_neg c]; exact ⟨h, fun z => z⟩
theorem Vw.FA {n : Nat} {V : Nat → Nat → Int32} (h : Vw n V) (hn : n ≤ 12) (L : Nat → (Nat → Int64) → Int64) : ∀ j, j ≤ n → Vw n (sFA V L j) ∧ (zF V → zF (sFA V L j))
  | 0, _ => ⟨h, fun z => z⟩
  | j + 1, hj => by
    have ih := h.FA hn L j (by omega)
    have := ih.1.F hn L (j := j) (by omega)
    exact ⟨this.1, fun z => this.2 (ih.2 z)⟩
theorem Vw.G {n : Nat} {V : Nat → Nat → Int32} (h : Vw n V) (L : Nat → (Nat → Int64) → Int64) {j : Nat} (hj : j < n) : Vw n (stG V L j) := by
  unfold stG
  by_cases c : V 9 j = 0
  · rw [if_pos c]
    have w := in0.w99 (v := L 2 (sNm V (nI j) (sTwo V (nI j)))) (wo := 0) ⟨0, by omega, by omega, rfl⟩
    generalize sWl (L 2 (sNm V (nI j) (sTwo V (nI j)))) 99 0 = w0 at w
    have g := (h j hj c).1
    have g2 : in0 (V 5 j + w0) 0 10098 := g.ad w (by omega)
    intro k hk z
    rw [xu_f _ _ (by decide)] at z
    rw [xu_f _ _ (show (6 : Nat) ≠ 5 by decide)]
    by_cases e : k = j
    · subst e
      rw [xu_s]
      refine ⟨?_, (h k hk z).2⟩
      by_cases c2 : V 5 k + w0 < 9999
      · rw [if_pos c2]; exact (g2.lt (c := 9998) (by omega) (by omega) c2 (by omega)).mo (by omega)
      · rw [if_neg c2]; exact ⟨9999, by omega, by omega, rfl⟩
    · rw [xu_ne (by omega)]; exact h k hk z
  · rw [if_neg c]; exact h
theorem Vw.GA {n : Nat} {V : Nat → Nat → Int32} (h : Vw n V) (L : Nat → (Nat → Int64) → Int64) : ∀ j, j ≤ n → Vw n (sGA V L j)
  | 0, _ => h
  | j + 1, hj => (h.GA L j (by omega)).G L (by omega)
theorem Vw.P {n : Nat} {V : Nat → Nat → Int32} (h : Vw n V) (j : Nat) : Vw n (stP V j) := by
  unfold stP
  split
  · split
    · exact h
    · intro k hk z
      by_cases e : k = j
      · subst e
        exact absurd z (by unfold sPay; rw [xu_s]; decide)
      · rw [sPay_o _ _ (by decide) (by omega)] at z
        rw [sPay_o _ _ (by decide) (by omega), sPay_o _ _ (by decide) (by omega)]; exact h k hk z
  · exact h
theorem Vw.PA {n : Nat} {V : Nat → Nat → Int32} (h : Vw n V) : ∀ j, Vw n (sPA V j)
  | 0 => h
  | j + 1 => (h.PA j).P j
theorem Vw.go {n : Nat} {V : Nat → Nat → Int32} (h : Vw n V) (hn : n ≤ 12) (L : Nat → (Nat → Int64) → Int64) (T : Nat → Nat → Int32) (m : Nat) (lo : Int32) : Vw n (sGo V L n T m lo) ∧ (zF V → zF (sGo V L n T m lo)) := by
  have a1 : Vw n (sCA V L n T m) := h.of (fun f k z => sCA_k V L n T (by omega) (by omega) m)
  have z1 : zF V → zF (sCA V L n T m) := fun z j hj => by rw [sCA_k V L n T (by omega) (by omega) m]; exact z j hj
  have a2 : Vw n (if lo = 0 then sCA V L n T m else sFA (sCA V L n T m) L n) ∧ (zF V → zF (if lo = 0 then sCA V L n T m else sFA (sCA V L n T m) L n)) := by
    split
    · exact ⟨a1, z1⟩
    · have := a1.FA hn L n (Nat.le_refl _)
      exact ⟨this.1, fun z => this.2 (z1 z)⟩
  have key1 : ∀ (V2 : Nat → Nat → Int32), (Vw n V2 ∧ (zF V → zF V2)) → Vw n (if lo = 4 then V2 else sGA V2 L n) ∧ (zF V → zF (if lo = 4 then V2 else sGA V2 L n)) := fun V2 a2 => by
    split
    · exact a2
    · exact ⟨a2.1.GA L n (Nat.le_refl _), fun z j hj => by rw [sGA_k _ _ (by decide)]; exact a2.2 z j hj⟩
  have key : ∀ (V3 : Nat → Nat → Int32), (Vw n V3 ∧ (zF V → zF V3)) → Vw n (if lo = 1 then V3 else sPA V3 n) ∧ (zF V → zF (if lo = 1 then V3 else sPA V3 n)) := fun V3 h3 => by
    split
    · exact h3
    · exact ⟨h3.1.PA n, fun z j hj => by rw [sPA_k _ (by decide) (by decide)]; exact h3.2 z j hj⟩
  have key2 : ∀ (V4 : Nat → Nat → Int32) (x : Int32), (Vw n V4 ∧ (zF V → zF V4)) → Vw n (xu V4 15 0 x) ∧ (zF V → zF (xu V4 15 0 x)) := fun V4 x h4 => ⟨h4.1.of (fun f k z => xu_f _ _ (by omega)), fun z j hj => by rw [xu_f _ _ (by decide)]; exact h4.2 z j hj⟩
  exact key2 _ _ (key _ (key1 _ a2))
