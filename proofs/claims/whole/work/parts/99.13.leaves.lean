/-! leaves of both sides of a text -/
theorem uC_tb {t : Nat} {K I : Nat → Nat → Int32} {j b : Nat} (hj : j < 13) (hb : 500 + j = b) (q : Nat) : uC t K I (t + j) q = K b q := by subst hb; exact uC_t hj q
theorem uC_xb {t : Nat} {K I : Nat → Nat → Int32} {j b : Nat} (hj : j < 13) (hb : 500 + j = b) (q : Nat) (v : Int32) (ht : t ∈ TL) : xu (uC t K I) (t + j) q v = uC t (xu K b q v) I := by subst hb; exact uC_xt hj q v ht
theorem hb16 : 16 ∈ BR := by decide
theorem sh_16 : SH[16]? = some (.inl 0, 16) := by decide +kernel
theorem sh_17 : SH[17]? = some (.inr 0, 6) := by decide +kernel
theorem pf_16_1 {P : Nat → Nat → Nat} (h : Pok P) : P 16 1 = 17 + 1 := h.at (by decide +kernel)
theorem sh_18 : SH[18]? = some (.inr 0, 6) := by decide +kernel
theorem pf_16_2 {P : Nat → Nat → Nat} (h : Pok P) : P 16 2 = 18 + 1 := h.at (by decide +kernel)
theorem sh_19 : SH[19]? = some (.inr 0, 12) := by decide +kernel
theorem pf_16_3 {P : Nat → Nat → Nat} (h : Pok P) : P 16 3 = 19 + 1 := h.at (by decide +kernel)
theorem sh_20 : SH[20]? = some (.inr 0, 12) := by decide +kernel
theorem pf_16_4 {P : Nat → Nat → Nat} (h : Pok P) : P 16 4 = 20 + 1 := h.at (by decide +kernel)
theorem sh_21 : SH[21]? = some (.inr 0, 12) := by decide +kernel
theorem pf_16_5 {P : Nat → Nat → Nat} (h : Pok P) : P 16 5 = 21 + 1 := h.at (by decide +kernel)
theorem sh_22 : SH[22]? = some (.inr 0, 12) := by decide +kernel
theorem pf_16_6 {P : Nat → Nat → Nat} (h : Pok P) : P 16 6 = 22 + 1 := h.at (by decide +kernel)
theorem sh_23 : SH[23]? = some (.inr 0, 12) := by decide +kernel
theorem pf_16_7 {P : Nat → Nat → Nat} (h : Pok P) : P 16 7 = 23 + 1 := h.at (by decide +kernel)
theorem sh_24 : SH[24]? = some (.inr 0, 12) := by decide +kernel
theorem pf_16_8 {P : Nat → Nat → Nat} (h : Pok P) : P 16 8 = 24 + 1 := h.at (by decide +kernel)
theorem sh_25 : SH[25]? = some (.inr 0, 12) := by decide +kernel
theorem pf_16_9 {P : Nat → Nat → Nat} (h : Pok P) : P 16 9 = 25 + 1 := h.at (by decide +kernel)
theorem sh_26 : SH[26]? = some (.inr 0, 12) := by decide +kernel
theorem pf_16_10 {P : Nat → Nat → Nat} (h : Pok P) : P 16 10 = 26 + 1 := h.at (by decide +kernel)
theorem sh_27 : SH[27]? = some (.inr 0, 8) := by decide +kernel
theorem pf_16_11 {P : Nat → Nat → Nat} (h : Pok P) : P 16 11 = 27 + 1 := h.at (by decide +kernel)
theorem TkR.end_ {kc v kr w : Int32} (h : TkR kc v kr w) : (kc = 38 ∧ kr = 0) ∨ (¬ kc = 38 ∧ ¬ kr = 0) := by
  rcases h with ⟨h1, h2⟩ | ⟨m, hm, h1, h2, h3⟩ | ⟨h1, h2, h3⟩ | ⟨h1, h2, h3⟩ | ⟨h1, h2⟩ | ⟨q, hq, h1, h2, h3⟩ | ⟨h1, h2⟩
  · exact Or.inl ⟨h1, h2⟩
  · rw [h1, h2]
    have : ∀ m, m < 23 → ¬ nI m = 38 := by decide +kernel
    exact Or.inr ⟨this m hm, by decide⟩
  · rw [h1, h2]; exact Or.inr (by decide)
  · rw [h1, h2]; exact Or.inr (by decide)
  · rcases h2 with h2 | h2 | h2 | h2 | h2 | h2 | h2 <;> (rw [h1, h2.2]; exact Or.inr (by decide))
  · rw [h1, h3]
    have : ∀ m, m < 6 → ¬ nI (23 + m) = 38 := by decide +kernel
    exact Or.inr ⟨this q hq, by decide⟩
  · rcases h2 with h2 | ⟨h2, h3⟩ <;> (rw [h1, h2]; exact Or.inr (by decide))
theorem TkR.name {kc v kr w : Int32} (h : TkR kc v kr w) : (kc = 37 ∧ kr = 2 ∧ v = w) ∨ (¬ kc = 37 ∧ ¬ kr = 2) := by
  rcases h with ⟨h1, h2⟩ | ⟨m, hm, h1, h2, h3⟩ | ⟨h1, h2, h3⟩ | ⟨h1, h2, h3⟩ | ⟨h1, h2⟩ | ⟨q, hq, h1, h2, h3⟩ | ⟨h1, h2⟩
  · rw [h1, h2]; exact Or.inr (by decide)
  · rw [h1, h2]
    have : ∀ m, m < 23 → ¬ nI m = 37 := by decide +kernel
    exact Or.inr ⟨this m hm, by decide⟩
  · exact Or.inl ⟨h1, h2, h3⟩
  · rw [h1, h2]; exact Or.inr (by decide)
  · rcases h2 with h2 | h2 | h2 | h2 | h2 | h2 | h2 <;> (rw [h1, h2.2]; exact Or.inr (by decide))
  · rw [h1, h3]
    have : ∀ m, m < 6 → ¬ nI (23 + m) = 37 := by decide +kernel
    exact Or.inr ⟨this q hq, by decide⟩
  · rcases h2 with h2 | ⟨h2, h3⟩ <;> (rw [h1, h2]; exact Or.inr (by decide))
theorem TkR.num {kc v kr w : Int32} (h : TkR kc v kr w) : (kc = 36 ∧ kr = 3 ∧ nuR v w) ∨ (¬ kc = 36 ∧ ¬ kr = 3) := by
  rcases h with ⟨h1, h2⟩ | ⟨m, hm, h1, h2, h3⟩ | ⟨h1, h2, h3⟩ | ⟨h1, h2, h3⟩ | ⟨h1, h2⟩ | ⟨q, hq, h1, h2, h3⟩ | ⟨h1, h2⟩
  · rw [h1, h2]; exact Or.inr (by decide)
  · rw [h1, h2]
    have : ∀ m, m < 23 → ¬ nI m = 36 := by decide +kernel
    exact Or.inr ⟨this m hm, by decide⟩
  · rw [h1, h2]; exact Or.inr (by decide)
  · exact Or.inl ⟨h1, h2, h3⟩
  · rcases h2 with h2 | h2 | h2 | h2 | h2 | h2 | h2 <;> (rw [h1, h2.2]; exact Or.inr (by decide))
  · rw [h1, h3]
    have : ∀ m, m < 6 → ¬ nI (23 + m) = 36 := by decide +kernel
    exact Or.inr ⟨this q hq, by decide⟩
  · rcases h2 with h2 | ⟨h2, h3⟩ <;> (rw [h1, h2]; exact Or.inr (by decide))
theorem TkR.key {kc v kr w : Int32} (h : TkR kc v kr w) {m : Nat} (hm : m < 23) : (kc = nI m ∧ kr = 1 ∧ w = nI (kMap m)) ∨ (¬ kc = nI m ∧ ¬ (kr = 1 ∧ w = nI (kMap m))) := by
  have z : ∀ m, m < 23 → ¬ (38 : Int32) = nI m ∧ ¬ (37 : Int32) = nI m ∧ ¬ (36 : Int32) = nI m ∧ ¬ (39 : Int32) = nI m ∧ ¬ (35 : Int32) = nI m ∧ ¬ (33 : Int32) = nI m ∧ ¬ (34 : Int32) = nI m ∧ ¬ (29 : Int32) = nI m ∧ ¬ (30 : Int32) = nI m ∧ ¬ (31 : Int32) = nI m ∧ ¬ (32 : Int32) = nI m := by decide +kernel
  have z := z m hm
  rcases h with ⟨h1, h2⟩ | ⟨m2, hm2, h1, h2, h3⟩ | ⟨h1, h2, h3⟩ | ⟨h1, h2, h3⟩ | ⟨h1, h2⟩ | ⟨q, hq, h1, h2, h3⟩ | ⟨h1, h2⟩
  · rw [h1, h2]; exact Or.inr ⟨z.1, fun e => absurd e.1 (by decide)⟩
  · by_cases e : m2 = m
    · subst e; exact Or.inl ⟨h1, h2, h3⟩
    · rw [h1, h2, h3]
      have y : ∀ m, m < 23 → ∀ m2, m2 < 23 → nI (kMap m2) = nI (kMap m) → m2 = m := by decide +kernel
      exact Or.inr ⟨fun q => e ((nI_eq (by omega) (by omega)).mp q), fun q => e (y m hm m2 hm2 q.2)⟩
  · rw [h1, h2]; exact Or.inr ⟨z.2.1, fun e => absurd e.1 (by decide)⟩
  · rw [h1, h2]; exact Or.inr ⟨z.2.2.1, fun e => absurd e.1 (by decide)⟩
  · refine Or.inr ⟨?_, fun e => absurd (h1.symm.trans e.1) (by decide)⟩
    rcases h2 with h2 | h2 | h2 | h2 | h2 | h2 | h2
    · rw [h2.2]; exact z.2.2.2.2.1
    · rw [h2.2]; exact z.2.2.2.2.2.1
    · rw [h2.2]; exact z.2.2.2.2.2.2.1
    · rw [h2.2]; exact z.2.2.2.2.2.2.2.1
    · rw [h2.2]; exact z.2.2.2.2.2.2.2.2.1
    · rw [h2.2]; exact z.2.2.2.2.2.2.2.2.2.1
    · rw [h2.2]; exact z.2.2.2.2.2.2.2.2.2.2
  · refine Or.inr ⟨?_, fun e => absurd (h1.symm.trans e.1) (by decide)⟩
    rw [h3]
    intro e
    have := (nI_eq (by omega) (by omega)).mp e
    omega
  · refine Or.inr ⟨by rw [h1]; exact z.2.2.2.1, fun e => ?_⟩
    rcases h2 with h2 | h2
    · exact absurd (h2.symm.trans e.1) (by decide)
    · exact absurd (h2.1.symm.trans e.1) (by decide)
theorem TkR.sgn {kc v kr w : Int32} (h : TkR kc v kr w) {k0 w0 : Int32} (h0 : sgR w0 k0) : (kc = k0 ∧ kr = 4 ∧ w = w0) ∨ (¬ kc = k0 ∧ ¬ (kr = 4 ∧ w = w0)) := by
  rcases h with ⟨h1, h2⟩ | ⟨m2, hm2, h1, h2, h3⟩ | ⟨h1, h2, h3⟩ | ⟨h1, h2, h3⟩ | ⟨h1, h2⟩ | ⟨q, hq, h1, h2, h3⟩ | ⟨h1, h2⟩
  · rw [h1, h2]; refine Or.inr ⟨?_, fun e => absurd e.1 (by decide)⟩
    rcases h0 with h0 | h0 | h0 | h0 | h0 | h0 | h0 <;> (rw [h0.2]; decide)
  · rw [h1, h2]; refine Or.inr ⟨?_, fun e => absurd e.1 (by decide)⟩
    have y : ∀ m, m < 23 → ¬ nI m = 35 ∧ ¬ nI m = 33 ∧ ¬ nI m = 34 ∧ ¬ nI m = 29 ∧ ¬ nI m = 30 ∧ ¬ nI m = 31 ∧ ¬ nI m = 32 := by decide +kernel
    have y := y m2 hm2
    rcases h0 with h0 | h0 | h0 | h0 | h0 | h0 | h0
    · rw [h0.2]; exact y.1
    · rw [h0.2]; exact y.2.1
    · rw [h0.2]; exact y.2.2.1
    · rw [h0.2]; exact y.2.2.2.1
    · rw [h0.2]; exact y.2.2.2.2.1
    · rw [h0.2]; exact y.2.2.2.2.2.1
    · rw [h0.2]; exact y.2.2.2.2.2.2
  · rw [h1, h2]; refine Or.inr ⟨?_, fun e => absurd e.1 (by decide)⟩
    rcases h0 with h0 | h0 | h0 | h0 | h0 | h0 | h0 <;> (rw [h0.2]; decide)
  · rw [h1, h2]; refine Or.inr ⟨?_, fun e => absurd e.1 (by decide)⟩
    rcases h0 with h0 | h0 | h0 | h0 | h0 | h0 | h0 <;> (rw [h0.2]; decide)
  · rcases h0 with h0 | h0 | h0 | h0 | h0 | h0 | h0 <;> rcases h2 with h2 | h2 | h2 | h2 | h2 | h2 | h2 <;> (rw [h1, h2.1, h2.2, h0.1, h0.2]; decide)
  · rw [h1, h3]; refine Or.inr ⟨?_, fun e => absurd e.1 (by decide)⟩
    have y : ∀ m, m < 6 → ¬ nI (23 + m) = 35 ∧ ¬ nI (23 + m) = 33 ∧ ¬ nI (23 + m) = 34 ∧ ¬ nI (23 + m) = 29 ∧ ¬ nI (23 + m) = 30 ∧ ¬ nI (23 + m) = 31 ∧ ¬ nI (23 + m) = 32 := by decide +kernel
    have y := y q hq
    rcases h0 with h0 | h0 | h0 | h0 | h0 | h0 | h0
    · rw [h0.2]; exact y.1
    · rw [h0.2]; exact y.2.1
    · rw [h0.2]; exact y.2.2.1
    · rw [h0.2]; exact y.2.2.2.1
    · rw [h0.2]; exact y.2.2.2.2.1
    · rw [h0.2]; exact y.2.2.2.2.2.1
    · rw [h0.2]; exact y.2.2.2.2.2.2
  · rcases h2 with h2 | h2
    · rw [h1, h2]; refine Or.inr ⟨?_, fun e => absurd e.1 (by decide)⟩
      rcases h0 with h0 | h0 | h0 | h0 | h0 | h0 | h0 <;> (rw [h0.2]; decide)
    · rw [h1, h2.1, h2.2]
      rcases h0 with h0 | h0 | h0 | h0 | h0 | h0 | h0 <;> (rw [h0.1, h0.2]; decide)
theorem nuR.rng {v w : Int32} (h : nuR v w) {lo hi : Nat} (hh : hi ≤ 99999) : (∃ x, lo ≤ x ∧ x ≤ hi ∧ v = nI x ∧ w = nI x ∧ (¬ v < nI lo ∧ ¬ nI hi < v) ∧ (¬ w < nI lo ∧ ¬ nI hi < w)) ∨ (¬ (¬ v < nI lo ∧ ¬ nI hi < v) ∧ ¬ (¬ w < nI lo ∧ ¬ nI hi < w)) ∨ 100000 < lo := by
  by_cases hl : 100000 < lo
  · exact Or.inr (Or.inr hl)
  rcases h with ⟨rfl, x, h1, rfl⟩ | ⟨⟨x, h1, h2, rfl⟩, ⟨x2, h3, h4, rfl⟩⟩
  · by_cases e1 : lo ≤ x
    · by_cases e2 : x ≤ hi
      · have z : ¬ nI x < nI lo ∧ ¬ nI hi < nI x := ⟨Int32.not_lt.mpr (nI_le e1 (by omega)), Int32.not_lt.mpr (nI_le e2 (by omega))⟩
        exact Or.inl ⟨x, e1, e2, rfl, rfl, z, z⟩
      · exact Or.inr (Or.inl ⟨fun z => z.2 (nI_lt (by omega) (by omega)), fun z => z.2 (nI_lt (by omega) (by omega))⟩)
    · exact Or.inr (Or.inl ⟨fun z => z.1 (nI_lt (by omega) (by omega)), fun z => z.1 (nI_lt (by omega) (by omega))⟩)
  · exact Or.inr (Or.inl ⟨fun z => z.2 (nI_lt (by omega) (by omega)), fun z => z.2 (nI_lt (by omega) (by omega))⟩)
theorem jT.tk {s i p : Nat} {K M : Nat → Nat → Int32} (h : jT s i p K M) : TkR (K 28 4) (K 28 5) (M 347 8) (M 347 9) := h.2.2.2.2.2.2.2.2.2.2.1
theorem jT.pl {s i p : Nat} {K M : Nat → Nat → Int32} (h : jT s i p K M) : K 28 3 = M 347 10 := h.2.2.2.2.2.2.1.trans h.2.2.2.2.2.2.2.2.2.1.symm
def agS (K K' M M' : Nat → Nat → Int32) : Prop := (∀ a k, ¬ (a = 28 ∨ (a = 2 ∧ k = 6)) → K' a k = K a k) ∧ ∀ a k, ¬ (a = 347 ∧ 6 ≤ k ∧ k ≤ 11) → M' a k = M a k
def agN (K K' M M' : Nat → Nat → Int32) : Prop := (∀ a k, ¬ (a = 28 ∨ a = 2) → K' a k = K a k) ∧ ∀ a k, ¬ (a = 347 ∧ 4 ≤ k ∧ k ≤ 11) → M' a k = M a k
theorem agS.n {K K' M M' : Nat → Nat → Int32} (h : agS K K' M M') : agN K K' M M' := ⟨fun a k z => h.1 a k (by omega), fun a k z => h.2 a k (by omega)⟩
theorem agT.s {K K' M M' : Nat → Nat → Int32} (h : agT K K' M M') : agS K K' M M' := ⟨fun a k z => h.1 a k (by omega), fun a k z => h.2 a k (by omega)⟩
theorem agN.lf {K K' M M' : Nat → Nat → Int32} (h : agN K K' M M') : LF M M' := LF.of fun a k z => h.2 a k (by omega)
theorem agN.gb {K K' M M' : Nat → Nat → Int32} (h : agN K K' M M') (g : jB K) : jB K' := g.c (fun a k z => h.1 a k (by omega))
theorem agS.rl {s i p np nd nc q ln i' p' : Nat} {K K' M M' : Nat → Nat → Int32} (z : agS K K' M M') (h : Rl s i p np nd nc q ln K M) (g : jT s i' p' K' M') : Rl s i' p' np nd nc q ln K' M' :=
  ⟨g, h.2.1.c (fun a k e => z.1 a k (by omega)) (fun a k e => z.2 a k (by omega)), h.2.2.1.c (fun a k e => z.1 a k (by omega)) (fun a k e => z.2 a k (by omega)), h.2.2.2.1.c (fun a k e => z.1 a k (by omega)) (fun a k e => z.2 a k (by omega)), h.2.2.2.2.1.c (fun a k e => z.1 a k (by omega)) (fun a k e => z.2 a k (by omega)), h.2.2.2.2.2.1.c (fun a k e => z.1 a k (by omega)) (fun a k e => z.2 a k (by omega)), h.2.2.2.2.2.2.1.c (fun a k e => z.1 a k (by omega)) (fun a k e => z.2 a k (by omega)), h.2.2.2.2.2.2.2.c (fun a k e => z.1 a k (by omega))⟩
/-- a fault of both -/
abbrev fC (K : Nat → Nat → Int32) (n : Int32) : Nat → Nat → Int32 := xu (xu K 2 4 n) 2 5 (K 28 3)
abbrev fR (M : Nat → Nat → Int32) (n : Int32) : Nat → Nat → Int32 := xu (xu M 347 4 n) 347 5 (M 347 10)
theorem bad_F {s i p : Nat} {K M : Nat → Nat → Int32} (h : jT s i p K M) (n : Int32) : jF (fC K n) (fR M n) := by
  exact ⟨((xu_ne (by decide)).trans (xu_s _ _ _ _)).trans ((xu_ne (by decide)).trans (xu_s _ _ _ _)).symm, (xu_s _ _ _ _).trans (h.pl.trans (xu_s _ _ _ _).symm)⟩
theorem bad_N (K M : Nat → Nat → Int32) (n : Int32) : agN K (fC K n) M (fR M n) := ⟨fun a k z => (xu_ne (by omega)).trans (xu_ne (by omega)), fun a k z => (xu_ne (by omega)).trans (xu_ne (by omega))⟩
set_option maxHeartbeats 1000000 in
theorem fail_c {K : Nat → Nat → Int32} (n0 : Int32) : cRun false 1 yX7_fail (fun _ => [.ref 2, .int n0]) K (some (.int 0)) (fC K n0) := by
  refine cAt.run (h := 0) cqX7_fail (ls := [some (.ref 2), some (.int n0)]) rfl (by simp [lg_sl, Value.category]) ?_
  intro E ex t I J P n hn ht hE hq
  refine r_aload_n dX7_fail_0 rfl ?_
  refine r_iload_n dX7_fail_1 rfl ?_
  refine r_putIv dX7_fail_2 flX7_45 ⟨_, _, _, rfl, Or.inl rfl⟩ sh_2 (by decide) rfl rfl rfl (uC_xc ht (by decide) _ _) ?_
  refine r_aload_n dX7_fail_5 rfl ?_
  refine r_aload_n dX7_fail_6 rfl ?_
  refine r_getR dX7_fail_7 flX7_32 sh_2 (by decide) rfl (pf_2_0 hq.1) ?_
  refine r_getIv dX7_fail_10 flX7_96 sh_28 (by decide) rfl (uC_cv ht (by decide) (xu_ne (by omega))) ?_
  refine r_putIv dX7_fail_13 flX7_49 ⟨_, _, _, rfl, Or.inl rfl⟩ sh_2 (by decide) rfl rfl rfl (uC_xc ht (by decide) _ _) ?_
  refine r_iconst (v := 0) dX7_fail_16 (by decide) ?_
  exact r_iret dX7_fail_17 rfl rfl rfl rfl
set_option maxHeartbeats 1000000 in
theorem wrong_r {M : Nat → Nat → Int32} (n0 : Int32) : rRun 1 yX11_wrong [.ref 347, .int n0] M (some (.int 0)) (fR M n0) := by
  refine rAt.run (h := 0) cqX11_wrong (ls := [some (.ref 347), some (.int n0)]) rfl (by simp [lg_sl, Value.category]) ?_
  intro E ex I J P n hn hP
  refine r_aload_n dX11_wrong_0 rfl ?_
  refine r_iload_n dX11_wrong_1 rfl ?_
  refine r_putIv dX11_wrong_2 flX11_199 ⟨_, _, _, rfl, Or.inl rfl⟩ sh_347 (by decide) rfl rfl rfl (uR_x (by decide) _ _) ?_
  refine r_aload_n dX11_wrong_5 rfl ?_
  refine r_aload_n dX11_wrong_6 rfl ?_
  refine r_getIv dX11_wrong_7 flX11_202 sh_347 (by decide) rfl (uR_v (by decide) (xu_ne (by omega))) ?_
  refine r_putIv dX11_wrong_10 flX11_16 ⟨_, _, _, rfl, Or.inl rfl⟩ sh_347 (by decide) rfl rfl rfl (uR_x (by decide) _ _) ?_
  refine r_iconst (v := 0) dX11_wrong_13 (by decide) ?_
  exact r_iret dX11_wrong_14 rfl rfl rfl rfl
set_option maxHeartbeats 1000000 in
theorem opn_t {K : Nat → Nat → Int32} {K' : Nat → Nat → Int32} {a b : Int32} (h : a < b) (z : cRun false 3 yX8_advance (fun _ => [.ref 28]) K none K') : cRun false 4 yX7_open (fun _ => [.ref 2, .int a, .int b]) K (some (.int 1)) K' := by
  refine cAt.run (h := 3) cqX7_open (ls := [some (.ref 2), some (.int a), some (.int b)]) rfl (by simp [lg_sl, Value.category]) ?_
  intro E ex t I J P n hn ht hE hq
  refine r_iload_n dX7_open_0 rfl ?_
  refine r_iload_n dX7_open_1 rfl ?_
  refine r_ic_lt 11 dX7_open_2 (by decide) (fun c2 => ?_) (fun c2 => ?_)
  · refine r_aload_n dX7_open_11 rfl ?_
    refine r_getR dX7_open_12 flX7_32 sh_2 (by decide) rfl (pf_2_0 hq.1) ?_
    refine r_cV0v dX7_open_15 vlX7_99 sh_28 (Nat.le_of_ble_eq_true rfl) (z E ex t I J P n (by omega) ht hE hq) ?_
    refine r_iconst (v := 1) dX7_open_18 (by decide) ?_
    exact r_iret dX7_open_19 rfl rfl rfl rfl
  · exact absurd h c2
set_option maxHeartbeats 1000000 in
theorem opn_f {K : Nat → Nat → Int32} {a b : Int32} (h : ¬ a < b) : cRun false 2 yX7_open (fun _ => [.ref 2, .int a, .int b]) K (some (.int 0)) (fC K 2) := by
  refine cAt.run (h := 1) cqX7_open (ls := [some (.ref 2), some (.int a), some (.int b)]) rfl (by simp [lg_sl, Value.category]) ?_
  intro E ex t I J P n hn ht hE hq
  refine r_iload_n dX7_open_0 rfl ?_
  refine r_iload_n dX7_open_1 rfl ?_
  refine r_ic_lt 11 dX7_open_2 (by decide) (fun c2 => ?_) (fun c2 => ?_)
  · exact absurd c2 h
  · refine r_aload_n dX7_open_5 rfl ?_
    refine r_iconst (v := 2) dX7_open_6 (by decide) ?_
    refine r_cV1i dX7_open_7 vlX7_86 sh_2 (Nat.le_of_ble_eq_true rfl) (fail_c 2 E ex t I J P n (by omega) ht hE hq) ?_
    exact r_iret dX7_open_10 rfl rfl rfl rfl
set_option maxHeartbeats 1000000 in
theorem cnum_1 {K : Nat → Nat → Int32} {a b : Int32} (h : ¬ K 28 4 = 36) : cRun false 2 yX7_number (fun _ => [.ref 2, .int a, .int b]) K (some (.int 0)) (fC K 1) := by
  refine cAt.run (h := 1) cqX7_number (ls := [some (.ref 2), some (.int a), some (.int b)]) rfl (by simp [lg_sl, Value.category]) ?_
  intro E ex t I J P n hn ht hE hq
  refine r_aload_n dX7_number_0 rfl ?_
  refine r_getR dX7_number_1 flX7_32 sh_2 (by decide) rfl (pf_2_0 hq.1) ?_
  refine r_getIv dX7_number_4 flX7_61 sh_28 (by decide) rfl (uC_c ht (by decide) _) ?_
  refine r_bipush (v := 36) dX7_number_7 (by decide) ?_
  refine r_ic_eq 18 dX7_number_9 (by decide) (fun c9 => ?_) (fun c9 => ?_)
  · exact absurd c9 h
  · refine r_aload_n dX7_number_12 rfl ?_
    refine r_iconst (v := 1) dX7_number_13 (by decide) ?_
    refine r_cV1i dX7_number_14 vlX7_86 sh_2 (Nat.le_of_ble_eq_true rfl) (fail_c 1 E ex t I J P n (by omega) ht hE hq) ?_
    exact r_iret dX7_number_17 rfl rfl rfl rfl
set_option maxHeartbeats 1000000 in
theorem cnum_2 {K : Nat → Nat → Int32} {a b : Int32} (h : K 28 4 = 36) (h2 : ¬ (¬ K 28 5 < a ∧ ¬ b < K 28 5)) : cRun false 2 yX7_number (fun _ => [.ref 2, .int a, .int b]) K (some (.int 0)) (fC K 2) := by
  refine cAt.run (h := 1) cqX7_number (ls := [some (.ref 2), some (.int a), some (.int b)]) rfl (by simp [lg_sl, Value.category]) ?_
  intro E ex t I J P n hn ht hE hq
  refine r_aload_n dX7_number_0 rfl ?_
  refine r_getR dX7_number_1 flX7_32 sh_2 (by decide) rfl (pf_2_0 hq.1) ?_
  refine r_getIv dX7_number_4 flX7_61 sh_28 (by decide) rfl (uC_c ht (by decide) _) ?_
  refine r_bipush (v := 36) dX7_number_7 (by decide) ?_
  refine r_ic_eq 18 dX7_number_9 (by decide) (fun c9 => ?_) (fun c9 => ?_)
  · refine r_aload_n dX7_number_18 rfl ?_
    refine r_getR dX7_number_19 flX7_32 sh_2 (by decide) rfl (pf_2_0 hq.1) ?_
    refine r_getIv dX7_number_22 flX7_102 sh_28 (by decide) rfl (uC_c ht (by decide) _) ?_
    refine r_iload_n dX7_number_25 rfl ?_
    refine r_ic_lt 40 dX7_number_26 (by decide) (fun c26 => ?_) (fun c26 => ?_)
    · refine r_aload_n dX7_number_40 rfl ?_
      refine r_iconst (v := 2) dX7_number_41 (by decide) ?_
      refine r_cV1i dX7_number_42 vlX7_86 sh_2 (Nat.le_of_ble_eq_true rfl) (fail_c 2 E ex t I J P n (by omega) ht hE hq) ?_
      exact r_iret dX7_number_45 rfl rfl rfl rfl
    · refine r_aload_n dX7_number_29 rfl ?_
      refine r_getR dX7_number_30 flX7_32 sh_2 (by decide) rfl (pf_2_0 hq.1) ?_
      refine r_getIv dX7_number_33 flX7_102 sh_28 (by decide) rfl (uC_c ht (by decide) _) ?_
      refine r_iload_n dX7_number_36 rfl ?_
      refine r_ic_le 46 dX7_number_37 (by decide) (fun c37 => ?_) (fun c37 => ?_)
      · exact absurd ⟨c26, Int32.not_lt.mpr c37⟩ h2
      · refine r_aload_n dX7_number_40 rfl ?_
        refine r_iconst (v := 2) dX7_number_41 (by decide) ?_
        refine r_cV1i dX7_number_42 vlX7_86 sh_2 (Nat.le_of_ble_eq_true rfl) (fail_c 2 E ex t I J P n (by omega) ht hE hq) ?_
        exact r_iret dX7_number_45 rfl rfl rfl rfl
  · exact absurd h c9
set_option maxHeartbeats 1000000 in
theorem cnum_t {K : Nat → Nat → Int32} {K' : Nat → Nat → Int32} {a b : Int32} (h : K 28 4 = 36) (h2 : ¬ K 28 5 < a ∧ ¬ b < K 28 5) (z : cRun false 3 yX8_advance (fun _ => [.ref 28]) (xu K 2 6 (K 28 5)) none K') : cRun false 4 yX7_number (fun _ => [.ref 2, .int a, .int b]) K (some (.int 1)) K' := by
  refine cAt.run (h := 3) cqX7_number (ls := [some (.ref 2), some (.int a), some (.int b)]) rfl (by simp [lg_sl, Value.category]) ?_
  intro E ex t I J P n hn ht hE hq
  refine r_aload_n dX7_number_0 rfl ?_
  refine r_getR dX7_number_1 flX7_32 sh_2 (by decide) rfl (pf_2_0 hq.1) ?_
  refine r_getIv dX7_number_4 flX7_61 sh_28 (by decide) rfl (uC_c ht (by decide) _) ?_
  refine r_bipush (v := 36) dX7_number_7 (by decide) ?_
  refine r_ic_eq 18 dX7_number_9 (by decide) (fun c9 => ?_) (fun c9 => ?_)
  · refine r_aload_n dX7_number_18 rfl ?_
    refine r_getR dX7_number_19 flX7_32 sh_2 (by decide) rfl (pf_2_0 hq.1) ?_
    refine r_getIv dX7_number_22 flX7_102 sh_28 (by decide) rfl (uC_c ht (by decide) _) ?_
    refine r_iload_n dX7_number_25 rfl ?_
    refine r_ic_lt 40 dX7_number_26 (by decide) (fun c26 => ?_) (fun c26 => ?_)
    · exact absurd c26 h2.1
    · refine r_aload_n dX7_number_29 rfl ?_
      refine r_getR dX7_number_30 flX7_32 sh_2 (by decide) rfl (pf_2_0 hq.1) ?_
      refine r_getIv dX7_number_33 flX7_102 sh_28 (by decide) rfl (uC_c ht (by decide) _) ?_
      refine r_iload_n dX7_number_36 rfl ?_
      refine r_ic_le 46 dX7_number_37 (by decide) (fun c37 => ?_) (fun c37 => ?_)
      · refine r_aload_n dX7_number_46 rfl ?_
        refine r_aload_n dX7_number_47 rfl ?_
        refine r_getR dX7_number_48 flX7_32 sh_2 (by decide) rfl (pf_2_0 hq.1) ?_
        refine r_getIv dX7_number_51 flX7_102 sh_28 (by decide) rfl (uC_c ht (by decide) _) ?_
        refine r_putIv dX7_number_54 flX7_105 ⟨_, _, _, rfl, Or.inl rfl⟩ sh_2 (by decide) rfl rfl rfl (uC_xc ht (by decide) _ _) ?_
        refine r_aload_n dX7_number_57 rfl ?_
        refine r_getR dX7_number_58 flX7_32 sh_2 (by decide) rfl (pf_2_0 hq.1) ?_
        refine r_cV0v dX7_number_61 vlX7_99 sh_28 (Nat.le_of_ble_eq_true rfl) (z E ex t I J P n (by omega) ht hE hq) ?_
        refine r_iconst (v := 1) dX7_number_64 (by decide) ?_
        exact r_iret dX7_number_65 rfl rfl rfl rfl
      · exact absurd (Int32.not_lt.mp h2.2) c37
  · exact absurd h c9
set_option maxHeartbeats 1000000 in
theorem rnum_1 {M : Nat → Nat → Int32} {a b : Int32} (h : ¬ M 347 8 = 3) : rRun 2 yX11_number [.ref 347, .int a, .int b] M (some (.int 0)) (fR M 1) := by
  refine rAt.run (h := 1) cqX11_number (ls := [some (.ref 347), some (.int a), some (.int b)]) rfl (by simp [lg_sl, Value.category]) ?_
  intro E ex I J P n hn hP
  refine r_aload_n dX11_number_0 rfl ?_
  refine r_getIv dX11_number_1 flX11_211 sh_347 (by decide) rfl (uR_r (by decide) _) ?_
  refine r_iconst (v := 3) dX11_number_4 (by decide) ?_
  refine r_ic_eq 14 dX11_number_5 (by decide) (fun c5 => ?_) (fun c5 => ?_)
  · exact absurd c5 h
  · refine r_aload_n dX11_number_8 rfl ?_
    refine r_iconst (v := 1) dX11_number_9 (by decide) ?_
    refine r_cV1i dX11_number_10 vlX11_235 sh_347 (Nat.le_of_ble_eq_true rfl) (wrong_r 1 E ex I J P n (by omega) hP) ?_
    exact r_iret dX11_number_13 rfl rfl rfl rfl
set_option maxHeartbeats 1000000 in
theorem rnum_2 {M : Nat → Nat → Int32} {a b : Int32} (h : M 347 8 = 3) (h2 : ¬ (¬ M 347 9 < a ∧ ¬ b < M 347 9)) : rRun 2 yX11_number [.ref 347, .int a, .int b] M (some (.int 0)) (fR M 2) := by
  refine rAt.run (h := 1) cqX11_number (ls := [some (.ref 347), some (.int a), some (.int b)]) rfl (by simp [lg_sl, Value.category]) ?_
  intro E ex I J P n hn hP
  refine r_aload_n dX11_number_0 rfl ?_
  refine r_getIv dX11_number_1 flX11_211 sh_347 (by decide) rfl (uR_r (by decide) _) ?_
  refine r_iconst (v := 3) dX11_number_4 (by decide) ?_
  refine r_ic_eq 14 dX11_number_5 (by decide) (fun c5 => ?_) (fun c5 => ?_)
  · refine r_aload_n dX11_number_14 rfl ?_
    refine r_getIv dX11_number_15 flX11_222 sh_347 (by decide) rfl (uR_r (by decide) _) ?_
    refine r_iload_n dX11_number_18 rfl ?_
    refine r_iload_n dX11_number_19 rfl ?_
    refine r_cS3i dX11_number_20 slX11_238 (Nat.le_of_ble_eq_true rfl) (x_le (Nat.le_trans (by decide) hn) (k_isIn_f h2 0)) ?_
    refine r_if_ne 32 dX11_number_23 (by decide) (fun c23 => ?_) (fun c23 => ?_)
    · exact absurd c23 (by decide)
    · refine r_aload_n dX11_number_26 rfl ?_
      refine r_iconst (v := 2) dX11_number_27 (by decide) ?_
      refine r_cV1i dX11_number_28 vlX11_235 sh_347 (Nat.le_of_ble_eq_true rfl) (wrong_r 2 E ex I J P n (by omega) hP) ?_
      exact r_iret dX11_number_31 rfl rfl rfl rfl
  · exact absurd h c5
set_option maxHeartbeats 1000000 in
theorem rnum_t {M : Nat → Nat → Int32} {M' : Nat → Nat → Int32} {a b : Int32} (h : M 347 8 = 3) (h2 : ¬ M 347 9 < a ∧ ¬ b < M 347 9) (z : rRun 2 yX11_token [.ref 347] (xu M 347 11 (M 347 9)) none M') : rRun 3 yX11_number [.ref 347, .int a, .int b] M (some (.int 1)) M' := by
  refine rAt.run (h := 2) cqX11_number (ls := [some (.ref 347), some (.int a), some (.int b)]) rfl (by simp [lg_sl, Value.category]) ?_
  intro E ex I J P n hn hP
  refine r_aload_n dX11_number_0 rfl ?_
  refine r_getIv dX11_number_1 flX11_211 sh_347 (by decide) rfl (uR_r (by decide) _) ?_
  refine r_iconst (v := 3) dX11_number_4 (by decide) ?_
  refine r_ic_eq 14 dX11_number_5 (by decide) (fun c5 => ?_) (fun c5 => ?_)
  · refine r_aload_n dX11_number_14 rfl ?_
    refine r_getIv dX11_number_15 flX11_222 sh_347 (by decide) rfl (uR_r (by decide) _) ?_
    refine r_iload_n dX11_number_18 rfl ?_
    refine r_iload_n dX11_number_19 rfl ?_
    refine r_cS3i dX11_number_20 slX11_238 (Nat.le_of_ble_eq_true rfl) (x_le (Nat.le_trans (by decide) hn) (k_isIn_t h2 0)) ?_
    refine r_if_ne 32 dX11_number_23 (by decide) (fun c23 => ?_) (fun c23 => ?_)
    · refine r_aload_n dX11_number_32 rfl ?_
      refine r_aload_n dX11_number_33 rfl ?_
      refine r_getIv dX11_number_34 flX11_222 sh_347 (by decide) rfl (uR_r (by decide) _) ?_
      refine r_putIv dX11_number_37 flX11_242 ⟨_, _, _, rfl, Or.inl rfl⟩ sh_347 (by decide) rfl rfl rfl (uR_x (by decide) _ _) ?_
      refine r_aload_n dX11_number_40 rfl ?_
      refine r_cV0v dX11_number_41 vlX11_245 sh_347 (Nat.le_of_ble_eq_true rfl) (z E ex I J P n (by omega) hP) ?_
      refine r_iconst (v := 1) dX11_number_44 (by decide) ?_
      exact r_iret dX11_number_45 rfl rfl rfl rfl
    · exact absurd c23 (by decide)
  · exact absurd h c5
theorem num_R {s i p lo hi : Nat} {K M : Nat → Nat → Int32} (hh : hi ≤ 99999) (hl : lo ≤ 100000) (h : jT s i p K M) (hF : jF K M) : ∃ r K' M', cRun false 4 yX7_number (fun _ => [.ref 2, .int (nI lo), .int (nI hi)]) K (some (.int r)) K' ∧ rRun 3 yX11_number [.ref 347, .int (nI lo), .int (nI hi)] M (some (.int r)) M' ∧ jF K' M' ∧ agN K K' M M' ∧ (r = 0 ∨ (r = 1 ∧ ∃ i' p' x, i ≤ p' ∧ lo ≤ x ∧ x ≤ hi ∧ jT s i' p' K' M' ∧ agS K K' M M' ∧ K' 2 6 = nI x ∧ M' 347 11 = nI x)) := by
  rcases h.tk.num with ⟨a1, a2, a3⟩ | ⟨a1, a2⟩
  · rcases a3.rng (lo := lo) hh with ⟨x, b1, b2, b3, b4, b5, b6⟩ | ⟨b1, b2⟩ | b1
    · have h1 : jT s i p (xu K 2 6 (K 28 5)) (xu M 347 11 (M 347 9)) := h.c (fun a k z => xu_ne (by omega)) (fun a k z => xu_ne (by omega))
      obtain ⟨i', p', K', M', c1, c2, c3, c4, c5⟩ := adv_R h1
      have e : agS K K' M M' := ⟨fun a k z => (c3.1 a k (by omega)).trans (xu_ne (by omega)), fun a k z => (c3.2 a k (by omega)).trans (xu_ne (by omega))⟩
      refine ⟨1, K', M', cnum_t a1 b5 c4, rnum_t a2 b6 c5, hF.c (fun a k z => e.1 a k (by omega)) (fun a k z => e.2 a k (by omega)), e.n, Or.inr ⟨rfl, i', p', x, c1, b1, b2, c2, e, ?_, ?_⟩⟩
      · exact ((c3.1 2 6 (by decide)).trans (xu_s _ _ _ _)).trans b3
      · exact ((c3.2 347 11 (by decide)).trans (xu_s _ _ _ _)).trans b4
    · exact ⟨0, _, _, fun E ex t I J P n hn => cnum_2 a1 b1 E ex t I J P n (by omega), fun E ex I J P n hn => rnum_2 a2 b2 E ex I J P n (by omega), bad_F h 2, bad_N K M 2, Or.inl rfl⟩
    · omega
  · exact ⟨0, _, _, fun E ex t I J P n hn => cnum_1 a1 E ex t I J P n (by omega), fun E ex I J P n hn => rnum_1 a2 E ex I J P n (by omega), bad_F h 1, bad_N K M 1, Or.inl rfl⟩
