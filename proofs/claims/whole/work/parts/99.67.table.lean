/-! twists: the reference's table -/
theorem lwB_min {S : Nat} : ∀ c j q, j ≤ q → q < lwB S c j → ¬ S.testBit q = true
  | 0, j, q, h1, h2 => by rw [lwB] at h2; omega
  | c + 1, j, q, h1, h2 => by
    rw [lwB] at h2
    by_cases d : S.testBit j = true
    · rw [if_pos d] at h2; omega
    · rw [if_neg d] at h2
      by_cases e : q = j
      · rw [e]; exact d
      · exact lwB_min c (j + 1) q (by omega) h2
theorem tBl_ge (V : Nat → Nat → Int32) (a m : Nat → Int32) (S R j s : Nat) : ∀ c t b, b ≤ tBl V a m S R j s c t b ∧ ∀ q, t ≤ q → q < t + c → S.testBit q = true → V 9 q = 0 → tOp a m R j s q ≤ tBl V a m S R j s c t b
  | 0, t, b => ⟨Int32.le_refl _, fun q h1 h2 => absurd h2 (by omega)⟩
  | c + 1, t, b => by
    rw [tBl]
    obtain ⟨i1, i2⟩ := tBl_ge V a m S R j s c (t + 1) (if S.testBit t = true ∧ V 9 t = 0 then (if tOp a m R j s t ≤ b then b else tOp a m R j s t) else b)
    have hb : b ≤ (if S.testBit t = true ∧ V 9 t = 0 then (if tOp a m R j s t ≤ b then b else tOp a m R j s t) else b) := by
      by_cases d : S.testBit t = true ∧ V 9 t = 0
      · rw [if_pos d]
        by_cases e : tOp a m R j s t ≤ b
        · rw [if_pos e]; exact Int32.le_refl _
        · rw [if_neg e]; exact Int32.le_of_lt (Int32.not_le.mp e)
      · rw [if_neg d]; exact Int32.le_refl _
    refine ⟨Int32.le_trans hb i1, fun q h1 h2 h3 h4 => ?_⟩
    by_cases e : q = t
    · subst e
      refine Int32.le_trans ?_ i1
      rw [if_pos ⟨h3, h4⟩]
      by_cases e : tOp a m R j s q ≤ b
      · rw [if_pos e]; exact e
      · rw [if_neg e]; exact Int32.le_refl _
    · exact i2 q (by omega) (by omega) h3 h4
theorem nI_lei {a b : Nat} (ha : a < 2 ^ 31) (hb : b < 2 ^ 31) : nI a ≤ nI b ↔ a ≤ b := by
  rw [Int32.le_iff_toInt_le, nIi ha, nIi hb]; omega
theorem and_del {S T s : Nat} : nD (S &&& T) (2 ^ s) = nD S (2 ^ s) &&& T := Nat.eq_of_testBit_eq fun k => by
  rw [nD2_bit, Nat.testBit_and, Nat.testBit_and, nD2_bit]
  cases S.testBit k <;> cases T.testBit k <;> simp
theorem tab_v {V : Nat → Nat → Int32} {a M : Nat → Int32} {f : Nat → Nat} {n k p Th : Nat} (hn : n ≤ 12) (hk : k ≤ 5) (hp : p ≤ 999) (ha : ∀ i, i < n → a i = nI (f i) ∧ f i ≤ 9999 ∧ (¬ V 9 i = 0 → f i = 0)) (hT : ∀ i, i < n → (Th.testBit i = true ↔ V 9 i = 0)) (hM0 : ∀ j, j ≤ k → M j = nI p) (hM : ∀ S j, S ≠ 0 → S < 2 ^ n → j ≤ k → M (6 * S + j) = tSt V a M n S j) : ∀ N S, S < N → S < 2 ^ n → ∀ j, j ≤ k → ∀ G, isG f j (S &&& Th) G → M (6 * S + j) = nI (p + wsN f S 12 + G)
  | 0, S, h, _, _, _, _, _ => absurd h (by omega)
  | N + 1, S, hN, hS, j, hj, G, hG => by
    have p12 : (2 : Nat) ^ n ≤ 2 ^ 12 := Nat.pow_le_pow_right (by omega) hn
    have inn : ∀ (X i : Nat), X < 2 ^ n → X.testBit i = true → i < n := fun X i hX hb => bit_lt hX hb
    have g0 : ∀ (X G' : Nat), isG f 0 X G' → G' = 0 := fun X G' h => by
      obtain ⟨v, hv, rfl⟩ := h
      rw [Nat.zero_min, Nat.mul_zero] at hv
      rw [hv.un (isT.z f X)]
    have gb : ∀ (X G' i : Nat), X < 2 ^ n → isG f i (X &&& Th) G' → G' ≤ 59994 := fun X G' i hX h => by
      obtain ⟨v, hv, rfl⟩ := h
      have := hv.b (fun q hq hb => by
        rw [Nat.testBit_and] at hb
        have : X.testBit q = true := by cases z : X.testBit q <;> simp_all
        exact (ha q (inn X q hX this)).2.1)
      omega
    have wb : ∀ X, X < 2 ^ n → wsN f X 12 ≤ 119988 := fun X hX => by
      have := ws_le (f := f) (X := X) 12 (fun q hq hb => (ha q (inn X q hX hb)).2.1)
      omega
    by_cases h0 : S = 0
    · subst h0
      have pz : pcT 0 12 = 0 := by decide
      have : G = 0 := by
        obtain ⟨v, hv, rfl⟩ := hG
        rw [Nat.zero_and, pz, show 2 * min j (0 / 2) = 0 by omega] at hv
        rw [hv.un (isT.z f _)]
      rw [this, ws_none 12 pz, Nat.mul_zero, Nat.zero_add]
      exact hM0 j hj
    · obtain ⟨l1, l2⟩ := low_ok (S := S) (by omega) h0
      have ls := inn S (lowB S) hS l2
      have lmin : ∀ q, q < lowB S → ¬ S.testBit q = true := fun q hq => lwB_min 12 0 q (by omega) hq
      rw [hM S j h0 hS hj]
      unfold tSt
      generalize lowB S = s at l1 l2 ls lmin ⊢
      have Rne : nD S (2 ^ s) ≠ S := fun z => by
        have := nD2_at S s
        rw [z, l2] at this; exact absurd this (by decide)
      have Rle := nD_le S (2 ^ s)
      have hR2 : nD S (2 ^ s) < 2 ^ n := by omega
      have as := ha s ls
      have wS := wsN_del (f := f) l2 12
      rw [if_pos l1] at wS
      have bS := wb S hS
      have ih : ∀ X, X < N → X < 2 ^ n → ∀ i, i ≤ k → ∀ G', isG f i (X &&& Th) G' → M (6 * X + i) = nI (p + wsN f X 12 + G') := fun X h1 h2 i hi G' h => tab_v hn hk hp ha hT hM0 hM N X h1 h2 i hi G' h
      have gG := gb S G j hS hG
      obtain ⟨GR, hGR⟩ := isG.ex f j (nD S (2 ^ s) &&& Th)
      have ihR := ih (nD S (2 ^ s)) (by omega) hR2 j hj GR hGR
      by_cases c : V 9 s = 0
      · have sT : (S &&& Th).testBit s = true := by rw [Nat.testBit_and, l2, (hT s ls).mpr c]; rfl
        have leR : GR ≤ G := isG.le l1 sT hG (by rw [and_del]; exact hGR)
        by_cases j0 : 0 < j
        · rw [if_pos ⟨j0, c⟩, ihR, as.1, nI_add]
          have op : ∀ t, t < n → (nD S (2 ^ s)).testBit t = true → V 9 t = 0 → ∃ y, tOp a M (nD S (2 ^ s)) j s t = nI y ∧ y ≤ p + wsN f S 12 + G ∧ ∀ G', isG f (j - 1) (nD (nD (S &&& Th) (2 ^ s)) (2 ^ t)) G' → y = p + wsN f S 12 + (G' + (f s + f t) / 2) := fun t ht hb h9 => by
            have at' := ha t ht
            have wR := wsN_del (f := f) hb 12
            rw [if_pos (by omega)] at wR
            have eT : nD (nD (S &&& Th) (2 ^ s)) (2 ^ t) = nD (nD S (2 ^ s)) (2 ^ t) &&& Th := by rw [and_del, and_del]
            have le2 := nD_le (nD S (2 ^ s)) (2 ^ t)
            obtain ⟨G', hG'⟩ := isG.ex f (j - 1) (nD (nD S (2 ^ s)) (2 ^ t) &&& Th)
            have m1 := ih (nD (nD S (2 ^ s)) (2 ^ t)) (by omega) (by omega) (j - 1) (by omega) G' hG'
            refine ⟨f s + f t + (f s + f t) / 2 + (p + wsN f (nD (nD S (2 ^ s)) (2 ^ t)) 12 + G'), ?_, ?_, fun G2 hG2 => ?_⟩
            · unfold tOp
              have e2 : nI (f s + f t) / 2 = nI ((f s + f t) / 2) := pk_div (d := 2) (by omega) (by omega) (by omega)
              rw [m1, as.1, at'.1, nI_add, e2, nI_add, nI_add]
            · obtain ⟨v, hv, rfl⟩ := id hG
              obtain ⟨v', hv', rfl⟩ := id hG'
              rw [← eT] at hv'
              have tR : (nD (S &&& Th) (2 ^ s)).testBit t = true := by rw [and_del, Nat.testBit_and, hb, (hT t ht).mpr h9]; rfl
              have := isG.le2 l1 sT j0 (by omega) tR hv hv'
              omega
            · rw [eT] at hG2
              have := hG2.un hG'
              omega
          obtain ⟨ge1, ge2⟩ := tBl_ge V a M S (nD S (2 ^ s)) j s (n - 1 - s) (s + 1) (nI (p + wsN f (nD S (2 ^ s)) 12 + GR + f s))
          have up := tBl_or V a M S (nD S (2 ^ s)) j s (n - 1 - s) (s + 1) (nI (p + wsN f (nD S (2 ^ s)) 12 + GR + f s))
          generalize tBl V a M S (nD S (2 ^ s)) j s (n - 1 - s) (s + 1) (nI (p + wsN f (nD S (2 ^ s)) 12 + GR + f s)) = x at ge1 ge2 up
          obtain ⟨y, y1, y2⟩ : ∃ y, x = nI y ∧ y ≤ p + wsN f S 12 + G := by
            rcases up with e | ⟨t, t1, t2, t3, t4, e⟩
            · exact ⟨_, e, by omega⟩
            · obtain ⟨y, z1, z2, -⟩ := op t (by omega) (by rw [nD2_ne (by omega)]; exact t3) t4
              exact ⟨y, e.symm.trans z1, z2⟩
          have lo : nI (p + wsN f S 12 + G) ≤ x := by
            rcases isG.at (Nat.lt_of_le_of_lt Nat.and_le_left (show S < 2 ^ 12 by omega)) l1 sT hG with z | ⟨-, t, t1, t2, G', z1, z2⟩
            · rw [and_del] at z
              have := z.un hGR
              rw [show p + wsN f S 12 + G = p + wsN f (nD S (2 ^ s)) 12 + GR + f s by omega]
              exact ge1
            · have t3 := t2
              rw [and_del, Nat.testBit_and] at t3
              have t4 : (nD S (2 ^ s)).testBit t = true := by cases z : (nD S (2 ^ s)).testBit t <;> simp_all
              have t5 : Th.testBit t = true := by cases z : Th.testBit t <;> simp_all
              have tn := inn _ t hR2 t4
              have v9 := (hT t tn).mp t5
              have tS : S.testBit t = true := sbs_d t t4
              have ts : t ≠ s := fun w => by rw [w, nD2_at] at t4; exact absurd t4 (by decide)
              have tgt : s < t := Classical.byContradiction fun w => lmin t (by omega) tS
              obtain ⟨y', a1, -, a3⟩ := op t tn t4 v9
              have := a3 G' z1
              have g2 := ge2 t (by omega) (by omega) tS v9
              rw [a1, show y' = p + wsN f S 12 + G by omega] at g2
              exact g2
          rw [y1] at lo ⊢
          have := (nI_lei (by omega) (by omega)).mp lo
          rw [show y = p + wsN f S 12 + G by omega]
        · have jz : j = 0 := by omega
          subst jz
          have e1 := g0 _ _ hG
          have e2 := g0 _ _ hGR
          rw [if_neg (fun z => j0 z.1), ihR, as.1, nI_add, show p + wsN f (nD S (2 ^ s)) 12 + GR + f s = p + wsN f S 12 + G by omega]
      · have fz := as.2.2 c
        have eq : nD S (2 ^ s) &&& Th = S &&& Th := Nat.eq_of_testBit_eq fun q => by
          rw [Nat.testBit_and, Nat.testBit_and]
          by_cases e : q = s
          · have : Th.testBit s = false := by
              cases z : Th.testBit s
              · rfl
              · exact absurd ((hT s ls).mp z) c
            rw [e, this, Bool.and_false, Bool.and_false]
          · rw [nD2_ne e]
        rw [eq] at hGR
        have := hG.un hGR
        rw [if_neg (fun z => c z.2), ihR, as.1, nI_add, show p + wsN f (nD S (2 ^ s)) 12 + GR + f s = p + wsN f S 12 + G by omega]
