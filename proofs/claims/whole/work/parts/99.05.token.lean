/-! the tokens of both: names, and a token whole -/
theorem sl_bv (x : Int32) {a : Nat} (h : a < 32) : (x <<< nI a).toBitVec = x.toBitVec <<< a := by
  have e : ∀ a, a < 32 → ((nI a).toBitVec.smod 32).toNat = a := by decide +kernel
  show x.toBitVec <<< ((nI a).toBitVec.smod 32) = _
  rw [BitVec.shiftLeft_eq', e a h]
theorem sl_sl (x : Int32) {a : Nat} (h : a + 5 < 32) : (x <<< nI a) <<< (5 &&& 31 : Int32) = x <<< nI (a + 5) := by
  apply Int32.toBitVec_inj.mp
  rw [show (5 &&& 31 : Int32) = nI 5 by decide, sl_bv _ (by decide), sl_bv _ (by omega), sl_bv _ h, BitVec.shiftLeft_add]
theorem sl_0 (x : Int32) : x <<< nI 0 = x := by
  apply Int32.toBitVec_inj.mp
  rw [sl_bv _ (by decide), BitVec.shiftLeft_zero]
def cF (T : Nat → Int32) (j : Nat) : Nat → Int32
  | 0 => 0
  | k + 1 => (cF T j k <<< (5 &&& 31)) ||| (T (j + k) - 97 + 1)
theorem t96 (t : Int32) : t - 97 + 1 = t - 96 := by
  rw [Int32.sub_eq_add_neg, Int32.add_assoc, Int32.sub_eq_add_neg]
  rfl
theorem cF_r {T U : Nat → Int32} {s : Nat} (h : tbR T U s) {j q : Nat} (hq : q ≤ s) (hs : s ≤ 700) (hl : ∀ k, j ≤ k → k < q → cLt (T k)) : ∀ k, j + k ≤ q → rPk U j q k = cF T j k := by
  intro k
  induction k with
  | zero => intro _; rfl
  | succ k ih =>
    intro hk
    obtain ⟨hb, hu⟩ := h (j + k) (by omega)
    rw [rPk, cF, ih (by omega), if_neg (nI_ge (by omega) (by omega)), hu, hb.s (fun z => (hl (j + k) (by omega) (by omega)).1 (Int32.lt_trans z (by decide))), t96]
theorem rPk_e (U : Nat → Int32) (j n : Nat) (hj : j ≤ 700) : ∀ e, n + e ≤ 6 → rPk U j (j + n) (n + e) = rPk U j (j + n) n <<< nI (5 * e) := by
  intro e
  induction e with
  | zero => intro _; exact (sl_0 _).symm
  | succ e ih =>
    intro he
    rw [← Nat.add_assoc, rPk, if_pos (nI_le (by omega) (by omega)), ih (by omega), sl_sl _ (by omega), Int32.or_zero]
    rfl
theorem cWo_v (T : Nat → Int32) (j : Nat) : ∀ c i n v, i = j + n → n + c ≤ 700 → v = cF T j (min n 6) → (cWo T c i n v).2.2 = cF T j (min (cWo T c i n v).2.1 6) := by
  intro c
  induction c with
  | zero => intro i n v _ _ hv; exact hv
  | succ c ih =>
    intro i n v hi hn hv
    rw [cWo]
    by_cases q : cLt (T i)
    · rw [if_pos q]
      refine ih (i + 1) (n + 1) _ (by omega) (by omega) ?_
      by_cases q6 : 6 ≤ n
      · rw [if_pos (show (6 : Int32) ≤ nI n from nI_le (a := 6) q6 (by omega)), hv, show min n 6 = 6 by omega, show min (n + 1) 6 = 6 by omega]
      · rw [if_neg (show ¬ (6 : Int32) ≤ nI n from nI_ge (b := 6) (by omega) (by decide)), hv, show min n 6 = n by omega, show min (n + 1) 6 = n + 1 by omega, cF, hi]
    · rw [if_neg q]; exact hv
theorem rLs_l (T : Nat → Int32) : ∀ c i k, i ≤ k → k < rLs T c i → cLt (T k) := by
  intro c
  induction c with
  | zero => intro i k h1 h2; rw [rLs] at h2; omega
  | succ c ih =>
    intro i k h1 h2
    rw [rLs] at h2
    by_cases q : cLt (T i)
    · rw [if_pos q] at h2
      by_cases e : k = i
      · rw [e]; exact q
      · exact ih (i + 1) k (by omega) h2
    · rw [if_neg q] at h2; omega
theorem cVl_s : ∀ n, n < 6 → (5 * (6 - nI n)) &&& 31 = nI (5 * (6 - n)) ∧ ¬ (6 : Int32) ≤ nI n := by decide +kernel
theorem cTo_R {T U : Nat → Int32} {s : Nat} (hs : s ≤ 700) (h : tbR T U s) {j : Nat} (hj : j ≤ s) (v w : Int32) : (rTo U rWords s j w).1 = (cTo T s j v).1 ∧ TkR (cTo T s j v).2.1 (cTo T s j v).2.2 (rTo U rWords s j w).2.1 (rTo U rWords s j w).2.2 := by
  by_cases e : j = s
  · rw [rTo, if_pos e, cTo, if_pos (show s ≤ j by omega)]
    exact ⟨rfl, Or.inl ⟨rfl, rfl⟩⟩
  obtain ⟨hb, hu⟩ := h j (by omega)
  rw [rTo, if_neg e, cTo, if_neg (show ¬ s ≤ j by omega)]
  by_cases q : cLt (T j)
  · rw [if_pos q, if_pos (show cLt (U j) by rw [hu]; exact hb.l.mp q)]
    obtain ⟨h1, h2⟩ := cWo_R h (s - j) j 0 0 (by omega)
    have h3 := cWo_v T j (s - j) j 0 0 rfl (by omega) rfl
    have h4 := rLs_le U (s - j) j
    have h5 := rLs_l U (s - j) j
    rw [← h1]
    generalize rLs U (s - j) j = b at h2 h4 h5 ⊢
    generalize (cWo T (s - j) j 0 0).2.1 = n at h2 h3 ⊢
    obtain rfl : b = j + n := by omega
    rw [Nat.add_sub_cancel_left, h3]
    refine ⟨rfl, ?_⟩
    rcases cWk_R h (p := j) (n := n) (by omega) with ⟨m, hm, e1, e2⟩ | ⟨e1, e2⟩
    · have hk := (kM_w m hm).1
      simp only [e1, e2]
      have k1 : rKd (nI (kMap m)) n = 1 := by rw [rKd, if_neg (nI_pos (by omega))]
      rw [k1, if_neg (by decide), cKd, if_neg (nI_nm1 (by omega))]
      exact Or.inr (Or.inl ⟨m, hm, rfl, rfl, rfl⟩)
    · simp only [e1, e2]
      by_cases n6 : n ≤ 6
      · have k1 : rKd (-1) n = 2 := by rw [rKd, if_pos (by decide), if_pos (show nI n ≤ 6 from nI_le (b := 6) n6 (by decide))]
        rw [k1, if_pos rfl, cKd, if_pos rfl, if_neg (show ¬ 6 < nI n from Int32.not_lt.mpr (nI_le (b := 6) n6 (by decide)))]
        refine Or.inr (Or.inr (Or.inl ⟨rfl, rfl, ?_⟩))
        have hl : ∀ k, j ≤ k → k < j + n → cLt (T k) := fun k a b => by
          obtain ⟨hb2, hu2⟩ := h k (by omega)
          have := h5 k a b
          rw [hu2] at this
          exact hb2.l.mpr this
        have hr := cF_r h (j := j) (q := j + n) (by omega) hs hl n (Nat.le_refl _)
        have he := rPk_e U j n (by omega) (6 - n) (by omega)
        rw [show n + (6 - n) = 6 by omega, hr] at he
        rw [he, show min n 6 = n by omega, cVl]
        by_cases n5 : n = 6
        · subst n5
          rw [if_pos (by decide)]
          exact (sl_0 _).symm
        · obtain ⟨a, b⟩ := cVl_s n (by omega)
          rw [if_neg b, a]
      · have k1 : rKd (-1) n = 6 := by rw [rKd, if_pos (by decide), if_neg (show ¬ nI n ≤ 6 from nI_ge (a := 6) (by omega) (by omega))]
        rw [k1, if_neg (by decide), cKd, if_pos rfl, if_pos (show 6 < nI n from nI_lt (a := 6) (by omega) (by omega))]
        exact TkR.bad (Or.inl rfl)
  · rw [if_neg q, if_neg (show ¬ cLt (U j) from fun z => q (hb.l.mpr (by rw [← hu]; exact z)))]
    by_cases g : cDg (T j)
    · rw [if_pos g, if_pos (show cDg (U j) by rw [hu]; exact hb.d.mp g)]
      obtain ⟨h1, h2⟩ := cNu_R h (s - j) j 0 0 (by omega) (Or.inl ⟨rfl, 0, by decide, rfl⟩)
      exact ⟨h1, Or.inr (Or.inr (Or.inr (Or.inl ⟨rfl, rfl, h2⟩)))⟩
    · rw [if_neg g, if_neg (show ¬ cDg (U j) from fun z => g (hb.d.mpr (by rw [← hu]; exact z)))]
      exact cSi_R h (by omega) v
