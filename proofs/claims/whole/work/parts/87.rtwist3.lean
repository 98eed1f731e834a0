/-! the reference: the table whole -/
theorem clr_lt {S s : Nat} (h : S.testBit s = true) : nD S (2 ^ s) < S := by
  rcases Nat.lt_or_ge (nD S (2 ^ s)) S with h1 | h1
  · exact h1
  · have e : nD S (2 ^ s) = S := Nat.le_antisymm (nD_le _ _) h1
    have := nD_bit S (2 ^ s) s
    rw [e, h, bit_2] at this
    simp at this
theorem low_ok {S : Nat} (hS : S < 4096) (h0 : S ≠ 0) : lowB S < 12 ∧ S.testBit (lowB S) = true := by
  have ⟨i, hi, hb⟩ := ex_bit hS h0
  obtain ⟨q, hq, hm⟩ := pk_least (fun k => S.testBit k = true) ⟨i, hb⟩
  have hqi : q ≤ i := by
    rcases Nat.lt_or_ge i q with h | h
    · exact absurd hb (hm i h)
    · exact h
  have e := lowB_at (S := S) (i := q) (by omega) hq hm
  rw [e]; exact ⟨by omega, hq⟩
theorem tRj_o (V : Nat → Nat → Int32) (a m : Nat → Int32) (n S : Nat) {q : Nat} (h : q < 6 * S ∨ 6 * S + 6 ≤ q) : ∀ j, j ≤ 6 → tRj V a m n S j q = m q
  | 0, _ => rfl
  | j + 1, hj => by rw [tRj, up0 _ _ _ (by omega), tRj_o V a m n S h j (by omega)]
theorem tBl_eq {V : Nat → Nat → Int32} {a m m' : Nat → Int32} {S R j s : Nat} (hRS : R < S) (hj : j ≤ 6) (h : ∀ q, q < 6 * S → m q = m' q) : ∀ c t b, tBl V a m S R j s c t b = tBl V a m' S R j s c t b
  | 0, _, _ => rfl
  | c + 1, t, b => by
    have e : tOp a m R j s t = tOp a m' R j s t := by
      unfold tOp
      rw [h _ (by have := nD_le R (2 ^ t); omega)]
    rw [tBl, tBl, e, tBl_eq hRS hj h c]
theorem tSt_eq {V : Nat → Nat → Int32} {a m m' : Nat → Int32} {n S j : Nat} (hS : S < 4096) (h0 : S ≠ 0) (hj : j ≤ 5) (h : ∀ q, q < 6 * S → m q = m' q) : tSt V a m n S j = tSt V a m' n S j := by
  have hl := clr_lt (low_ok hS h0).2
  unfold tSt
  rw [h _ (by omega), tBl_eq hl (by omega) h]
theorem tRj_v (V : Nat → Nat → Int32) (a m : Nat → Int32) {n S i : Nat} (hS : S < 4096) (h0 : S ≠ 0) : ∀ j, i < j → j ≤ 6 → tRj V a m n S j (6 * S + i) = tSt V a m n S i
  | 0, h, _ => absurd h (by omega)
  | j + 1, h, hj => by
    rw [tRj]
    by_cases e : i = j
    · subst e
      rw [up_s]
      exact tSt_eq hS h0 (by omega) (fun q hq => tRj_o V a m n S (Or.inl hq) i (by omega))
    · rw [up0 _ _ _ (by omega)]; exact tRj_v V a m hS h0 j (by omega) (by omega)
theorem tAl_lo (V : Nat → Nat → Int32) (a m : Nat → Int32) (n : Nat) {k q : Nat} (hk : k ≤ 5) {c : Nat} (hq : q < 6 * (c + 1)) : ∀ i, tAl V a m n k (c + i) q = tAl V a m n k c q
  | 0 => rfl
  | i + 1 => by
    rw [← Nat.add_assoc, tAl, tRj_o V a _ n (c + i + 1) (Or.inl (by omega)) (k + 1) (by omega), tAl_lo V a m n hk hq i]
/-- the table's own law -/
theorem tAl_law (V : Nat → Nat → Int32) (a m : Nat → Int32) (n : Nat) {k N S j : Nat} (hk : k ≤ 5) (hN : N < 4096) (h0 : S ≠ 0) (hSN : S ≤ N) (hj : j ≤ k) : tAl V a m n k N (6 * S + j) = tSt V a (tAl V a m n k N) n S j := by
  obtain ⟨c, rfl⟩ : ∃ c, S = c + 1 := ⟨S - 1, by omega⟩
  obtain ⟨i, rfl⟩ : ∃ i, N = c + 1 + i := ⟨N - (c + 1), by omega⟩
  rw [tAl_lo V a m n hk (by omega) i, tAl, tRj_v V a _ (by omega) h0 (k + 1) (by omega) (by omega)]
  refine tSt_eq (by omega) h0 (by omega) (fun q hq => ?_)
  rw [tAl_lo V a m n hk (by omega) i, tAl, tRj_o V a _ n (c + 1) (Or.inl hq) (k + 1) (by omega)]
theorem tAl_0 (V : Nat → Nat → Int32) (a m : Nat → Int32) (n : Nat) {k N j : Nat} (hk : k ≤ 5) (hj : j < 6) : tAl V a m n k N j = m j := by
  have := tAl_lo V a m n (k := k) (q := j) hk (c := 0) (by omega) N
  rw [Nat.zero_add] at this; exact this
theorem tBl_or (V : Nat → Nat → Int32) (a m : Nat → Int32) (S R j s : Nat) : ∀ c t b, tBl V a m S R j s c t b = b ∨ ∃ q, t ≤ q ∧ q < t + c ∧ S.testBit q = true ∧ V 9 q = 0 ∧ tOp a m R j s q = tBl V a m S R j s c t b
  | 0, _, _ => Or.inl rfl
  | c + 1, t, b => by
    rw [tBl]
    rcases tBl_or V a m S R j s c (t + 1) (if S.testBit t = true ∧ V 9 t = 0 then (if tOp a m R j s t ≤ b then b else tOp a m R j s t) else b) with h | ⟨q, h1, h2, h3, h4, h5⟩
    · rw [h]
      by_cases hc : S.testBit t = true ∧ V 9 t = 0
      · rw [if_pos hc]
        by_cases hb : tOp a m R j s t ≤ b
        · rw [if_pos hb]; exact Or.inl rfl
        · rw [if_neg hb]; exact Or.inr ⟨t, Nat.le_refl _, by omega, hc.1, hc.2, rfl⟩
      · rw [if_neg hc]; exact Or.inl rfl
    · exact Or.inr ⟨q, by omega, by omega, h3, h4, h5⟩
/-- a set bears most without its first strand twisted, or with it twisted -/
def tLaw (V : Nat → Nat → Int32) (a m : Nat → Int32) (n k : Nat) : Prop := ∀ S j, S ≠ 0 → S < 2 ^ n → j ≤ k → m (6 * nD S (2 ^ lowB S) + j) + a (lowB S) = m (6 * S + j) ∨ (0 < j ∧ ∃ t, lowB S < t ∧ t < n ∧ tTw V a m (nD S (2 ^ lowB S)) j (lowB S) t (m (6 * S + j)))
theorem tAl_tLaw (V : Nat → Nat → Int32) (a m : Nat → Int32) {n k : Nat} (hn : n ≤ 12) (hk : k ≤ 5) : tLaw V a (tAl V a m n k (2 ^ n - 1)) n k := by
  intro S j h0 hS hj
  have hp := pow12 hn
  have hl := tAl_law V a m n (k := k) (N := 2 ^ n - 1) (S := S) (j := j) hk (by omega) h0 (by omega) hj
  generalize tAl V a m n k (2 ^ n - 1) = M at hl ⊢
  have hlow := low_ok (S := S) (by omega) h0
  have hln : lowB S < n := bit_lt hS hlow.2
  rw [hl]
  unfold tSt
  by_cases hc : 0 < j ∧ V 9 (lowB S) = 0
  · rw [if_pos hc]
    rcases tBl_or V a M S (nD S (2 ^ lowB S)) j (lowB S) (n - 1 - lowB S) (lowB S + 1) (M (6 * nD S (2 ^ lowB S) + j) + a (lowB S)) with h | ⟨q, h1, h2, h3, h4, h5⟩
    · exact Or.inl h.symm
    · refine Or.inr ⟨hc.1, q, by omega, by omega, ?_, h4, h5⟩
      rw [nD_bit, h3, bit_2]
      simp; omega
  · rw [if_neg hc]; exact Or.inl rfl
set_option maxHeartbeats 1000000 in
theorem l_low75 {E : xCl} {ex : Bool} {I V : Nat → Nat → Int32} {a m p : Nat → Int32} {e : Int32} {J : Nat → Nat → Int64} {P : Nat → Nat → Nat} {k S : Nat} (hS : S < 4096) (h0 : S ≠ 0) {x2 : Int32} {y5 y6 y7 y8 y9 : Option Value} (d : Nat) {Q : Option Value → xS → Prop} (K : xR (xEx E ex (d + 5)) ex none yX11_layTwists cX11_layTwists none 90 [some (.ref 347), some (.int (nI k)), some (.int x2), some (.int (nI S)), some (.int (nI (lowB S))), y5, y6, y7, y8, y9] [] (SH, wR (wE (wY I a m p) e) 0 V, J, P) Q) : ∀ c j, j + c = 12 → (∀ q, q < j → ¬ S.testBit q = true) → xR (xEx E ex (d + 5)) ex none yX11_layTwists cX11_layTwists none 75 [some (.ref 347), some (.int (nI k)), some (.int x2), some (.int (nI S)), some (.int (nI j)), y5, y6, y7, y8, y9] [] (SH, wR (wE (wY I a m p) e) 0 V, J, P) Q := by
  intro c
  induction c with
  | zero =>
    intro j hj hng
    obtain ⟨i, hi, hb⟩ := ex_bit hS h0
    exact absurd hb (hng i (by omega))
  | succ c ih =>
    intro j hj hng
    refine r_iload_n dX11_layTwists_75 rfl ?_
    refine r_iload dX11_layTwists_76 rfl ?_
    by_cases h78 : (nI S >>> (nI j &&& 31)) &&& 1 = 1
    · refine r_cS2i dX11_layTwists_78 slX11_485 (Nat.le_of_ble_eq_true rfl) (k_isOf_t h78 (d + 4)) ?_
      have b78 := (bz_1 (by omega) (by omega)).mp h78
      refine r_if_ne 90 dX11_layTwists_81 (by decide) (fun c81 => ?_) (fun c81 => ?_)
      · rw [lowB_at (i := j) (by omega) b78 hng] at K; exact K
      · exact absurd c81 (by decide)
    · refine r_cS2i dX11_layTwists_78 slX11_485 (Nat.le_of_ble_eq_true rfl) (k_isOf_f h78 (d + 4)) ?_
      have b78 : ¬ S.testBit j = true := fun z => h78 ((bz_1 (by omega) (by omega)).mpr z)
      refine r_if_ne 90 dX11_layTwists_81 (by decide) (fun c81 => ?_) (fun c81 => ?_)
      · exact absurd c81 (by decide)
      · refine r_iinc4 (v := 1) dX11_layTwists_84 (by decide) rfl ?_
        refine r_goto 75 dX11_layTwists_87 (by decide) ?_
        rw [nI_1]; exact ih (j + 1) (by omega) (fun q hq => if e : q = j then (by rw [e]; exact b78) else hng q (by omega))
set_option maxHeartbeats 1000000 in
theorem l_low287 {E : xCl} {ex : Bool} {I V : Nat → Nat → Int32} {a m p : Nat → Int32} {e : Int32} {J : Nat → Nat → Int64} {P : Nat → Nat → Nat} {k S : Nat} (hS : S < 4096) (h0 : S ≠ 0) {x2 x4 : Int32} {y6 y7 y8 y9 : Option Value} (d : Nat) {Q : Option Value → xS → Prop} (K : xR (xEx E ex (d + 5)) ex none yX11_layTwists cX11_layTwists none 302 [some (.ref 347), some (.int (nI k)), some (.int x2), some (.int (nI S)), some (.int x4), some (.int (nI (lowB S))), y6, y7, y8, y9] [] (SH, wR (wE (wY I a m p) e) 0 V, J, P) Q) : ∀ c j, j + c = 12 → (∀ q, q < j → ¬ S.testBit q = true) → xR (xEx E ex (d + 5)) ex none yX11_layTwists cX11_layTwists none 287 [some (.ref 347), some (.int (nI k)), some (.int x2), some (.int (nI S)), some (.int x4), some (.int (nI j)), y6, y7, y8, y9] [] (SH, wR (wE (wY I a m p) e) 0 V, J, P) Q := by
  intro c
  induction c with
  | zero =>
    intro j hj hng
    obtain ⟨i, hi, hb⟩ := ex_bit hS h0
    exact absurd hb (hng i (by omega))
  | succ c ih =>
    intro j hj hng
    refine r_iload_n dX11_layTwists_287 rfl ?_
    refine r_iload dX11_layTwists_288 rfl ?_
    by_cases h290 : (nI S >>> (nI j &&& 31)) &&& 1 = 1
    · refine r_cS2i dX11_layTwists_290 slX11_485 (Nat.le_of_ble_eq_true rfl) (k_isOf_t h290 (d + 4)) ?_
      have b290 := (bz_1 (by omega) (by omega)).mp h290
      refine r_if_ne 302 dX11_layTwists_293 (by decide) (fun c293 => ?_) (fun c293 => ?_)
      · rw [lowB_at (i := j) (by omega) b290 hng] at K; exact K
      · exact absurd c293 (by decide)
    · refine r_cS2i dX11_layTwists_290 slX11_485 (Nat.le_of_ble_eq_true rfl) (k_isOf_f h290 (d + 4)) ?_
      have b290 : ¬ S.testBit j = true := fun z => h290 ((bz_1 (by omega) (by omega)).mpr z)
      refine r_if_ne 302 dX11_layTwists_293 (by decide) (fun c293 => ?_) (fun c293 => ?_)
      · exact absurd c293 (by decide)
      · refine r_iinc5 (v := 1) dX11_layTwists_296 (by decide) rfl ?_
        refine r_goto 287 dX11_layTwists_299 (by decide) ?_
        rw [nI_1]; exact ih (j + 1) (by omega) (fun q hq => if e : q = j then (by rw [e]; exact b290) else hng q (by omega))
set_option maxHeartbeats 4000000 in
theorem l_twS {E : xCl} {ex : Bool} {I V : Nat → Nat → Int32} {a m p : Nat → Int32} {e : Int32} {J : Nat → Nat → Int64} {P : Nat → Nat → Nat} (hP : Pok P) {n : Nat} (hv : Vok V n) {k : Nat} (hk5 : k ≤ 5) (d : Nat) {Q : Option Value → xS → Prop} (K : ∀ x3 y4 y5 y6 y7 y8 y9, xR (xEx E ex (d + 5)) ex none yX11_layTwists cX11_layTwists none 273 [some (.ref 347), some (.int (nI k)), some (.int (nI (2 ^ n))), some (.int x3), y4, y5, y6, y7, y8, y9] [] (SH, wR (wE (wY I a (tAl V a m n k (2 ^ n - 1)) p) e) 0 V, J, P) Q) : ∀ r c y4 y5 y6 y7 y8 y9, c + 1 + r = 2 ^ n → xR (xEx E ex (d + 5)) ex none yX11_layTwists cX11_layTwists none 67 [some (.ref 347), some (.int (nI k)), some (.int (nI (2 ^ n))), some (.int (nI (c + 1))), y4, y5, y6, y7, y8, y9] [] (SH, wR (wE (wY I a (tAl V a m n k c) p) e) 0 V, J, P) Q := by
  have hn12 := hv.1
  have hp12 := pow12 hn12
  intro r
  induction r with
  | zero =>
    intro c y4 y5 y6 y7 y8 y9 hc
    refine r_iload_n dX11_layTwists_67 rfl ?_
    refine r_iload_n dX11_layTwists_68 rfl ?_
    refine r_ic_ge 273 dX11_layTwists_69 (by decide) (fun c69 => ?_) (fun c69 => ?_)
    · rw [show c = 2 ^ n - 1 by omega] at *; exact K _ _ _ _ _ _ _
    · exact absurd (nI_le (by omega) (by omega)) c69
  | succ r ih =>
    intro c y4 y5 y6 y7 y8 y9 hc
    have hS : c + 1 < 4096 := by omega
    have hlow := low_ok hS (by omega)
    have hln : lowB (c + 1) < n := bit_lt (show c + 1 < 2 ^ n by omega) hlow.2
    refine r_iload_n dX11_layTwists_67 rfl ?_
    refine r_iload_n dX11_layTwists_68 rfl ?_
    refine r_ic_ge 273 dX11_layTwists_69 (by decide) (fun c69 => ?_) (fun c69 => ?_)
    · exact absurd c69 (nI_ge (by omega) (by omega))
    · refine r_iconst (v := 0) dX11_layTwists_72 (by decide) ?_
      refine r_istore4 dX11_layTwists_73 rfl ?_
      refine l_low75 hS (by omega) d ?_ 12 0 (by omega) (fun q hq => absurd hq (by omega))
      refine r_iload_n dX11_layTwists_90 rfl ?_
      refine r_iconst (v := 1) dX11_layTwists_91 (by decide) ?_
      refine r_iload dX11_layTwists_92 rfl ?_
      refine r_ishl dX11_layTwists_94 ?_
      refine r_iconst (v := (-1)) dX11_layTwists_95 (by decide) ?_
      refine r_ixor dX11_layTwists_96 ?_
      refine r_iand dX11_layTwists_97 ?_
      refine r_istore5 dX11_layTwists_98 rfl ?_
      refine r_iconst (v := 0) dX11_layTwists_100 (by decide) ?_
      refine r_istore6 dX11_layTwists_101 rfl ?_
      rw [bz_clr hlow.1]
      refine l_twJ (m := (tAl V a m n k c)) hP hv hk5 hS hln rfl d (fun y7 y8 y9 => ?_) 0 (Nat.zero_le _) _ _ _
      refine r_iinc3 (v := 1) dX11_layTwists_267 (by decide) rfl ?_
      refine r_goto 67 dX11_layTwists_270 (by decide) ?_
      rw [nI_1]; exact ih (c + 1) _ _ _ _ _ _ (by omega)
