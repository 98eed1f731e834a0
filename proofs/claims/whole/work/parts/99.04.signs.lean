/-! the tokens of both: signs and words -/
def rWords : List (List Nat) := [[112, 101, 114, 115, 111, 110], [100, 101, 98, 116], [116, 119, 105, 115, 116], [99, 114, 111, 115, 115], [112, 108, 97, 110, 107], [115, 101, 101, 100], [108, 97, 119], [101, 97, 115, 116], [119, 101, 115, 116], [112, 97, 105, 110, 116, 101, 100], [98, 101, 97, 114], [102, 114, 97, 121], [114, 101, 110, 116], [97, 110, 100], [111, 114], [110, 111, 116], [111, 119, 101, 100], [102, 114, 97, 121, 101, 100], [97, 103, 101], [100, 117, 101], [121, 101, 97, 114], [114, 105, 99, 104], [116, 119, 111]]
def kMap (m : Nat) : Nat := if m < 9 then m else if m < 12 then m + 1 else if m = 12 then 9 else if m < 20 then m + 3 else m - 7
def sgR (w kc : Int32) : Prop := (w = 59 ∧ kc = 35) ∨ (w = 40 ∧ kc = 33) ∨ (w = 41 ∧ kc = 34) ∨ (w = 43 ∧ kc = 29) ∨ (w = 45 ∧ kc = 30) ∨ (w = 42 ∧ kc = 31) ∨ (w = 47 ∧ kc = 32)
/-- a token of the class (kind, value) and one of the reference (kind, which) -/
def TkR (kc v kr w : Int32) : Prop := (kc = 38 ∧ kr = 0) ∨ (∃ m, m < 23 ∧ kc = nI m ∧ kr = 1 ∧ w = nI (kMap m)) ∨ (kc = 37 ∧ kr = 2 ∧ v = w) ∨ (kc = 36 ∧ kr = 3 ∧ nuR v w) ∨ (kr = 4 ∧ sgR w kc) ∨ (∃ q, q < 6 ∧ kr = 5 ∧ w = nI q ∧ kc = nI (23 + q)) ∨ (kc = 39 ∧ (kr = 6 ∨ (kr = 4 ∧ w = 37)))
theorem TkR.cm {v : Int32} (q : Nat) (h : q < 6) : TkR (nI (23 + q)) v 5 (nI q) := Or.inr (Or.inr (Or.inr (Or.inr (Or.inr (Or.inl ⟨q, h, rfl, rfl, rfl⟩)))))
theorem TkR.sg {v w kc : Int32} (h : sgR w kc) : TkR kc v 4 w := Or.inr (Or.inr (Or.inr (Or.inr (Or.inl ⟨rfl, h⟩))))
theorem TkR.bad {v kr w : Int32} (h : kr = 6 ∨ (kr = 4 ∧ w = 37)) : TkR 39 v kr w := Or.inr (Or.inr (Or.inr (Or.inr (Or.inr (Or.inr ⟨rfl, h⟩)))))
theorem cSi_R {T U : Nat → Int32} {s : Nat} (h : tbR T U s) {j : Nat} (hj : j < s) (v : Int32) : (rSi U s j).1 = (cSi T s j).1 ∧ TkR (cSi T s j).2 v (rSi U s j).2.1 (rSi U s j).2.2 := by
  obtain ⟨hb, hu⟩ := h j hj
  have hB : bOk (cBh T s j) ∧ cBh U s j = cBh T s j &&& 255 := by
    by_cases q : j + 1 < s
    · rw [cBh, cBh, if_pos q, if_pos q]; exact h (j + 1) q
    · rw [cBh, cBh, if_neg q, if_neg q]; exact ⟨⟨0, by decide⟩, by decide⟩
  have ex : ∀ c : Int32, 0 ≤ c → c < 128 → (U j = c ↔ T j = c) := fun c h0 h1 => by rw [hu]; exact (hb.e h0 h1).symm
  have eb : ∀ c : Int32, 0 ≤ c → c < 128 → (cBh U s j = c ↔ cBh T s j = c) := fun c h0 h1 => by rw [hB.2]; exact (hB.1.e h0 h1).symm
  by_cases x60 : T j = 60
  · have u60 := (ex 60 (by decide) (by decide)).mpr x60
    by_cases b61 : cBh T s j = 61
    · rw [rSi, if_pos u60, if_pos ((eb 61 (by decide) (by decide)).mpr b61), cSi, show cDk (T j) (cBh T s j) = 24 by rw [x60, b61]; decide, if_neg (by decide)]
      exact ⟨rfl, TkR.cm 1 (by decide)⟩
    · by_cases b62 : cBh T s j = 62
      · rw [rSi, if_pos u60, if_neg (fun z => b61 ((eb 61 (by decide) (by decide)).mp z)), if_pos ((eb 62 (by decide) (by decide)).mpr b62), cSi, show cDk (T j) (cBh T s j) = 26 by rw [x60, b62]; decide, if_neg (by decide)]
        exact ⟨rfl, TkR.cm 3 (by decide)⟩
      · rw [rSi, if_pos u60, if_neg (fun z => b61 ((eb 61 (by decide) (by decide)).mp z)), if_neg (fun z => b62 ((eb 62 (by decide) (by decide)).mp z)), cSi, show cDk (T j) (cBh T s j) = 39 by rw [cDk, if_neg (fun z => b61 z.2), if_neg (fun z => b62 z.2), if_neg (fun z => b61 z.2)], if_pos rfl, x60]
        exact ⟨rfl, TkR.cm 0 (by decide)⟩
  by_cases x62 : T j = 62
  · have u62 := (ex 62 (by decide) (by decide)).mpr x62
    have u60 : ¬ U j = 60 := fun z => x60 ((ex 60 (by decide) (by decide)).mp z)
    by_cases b61 : cBh T s j = 61
    · rw [rSi, if_neg u60, if_pos u62, if_pos ((eb 61 (by decide) (by decide)).mpr b61), cSi, show cDk (T j) (cBh T s j) = 27 by rw [x62, b61]; decide, if_neg (by decide)]
      exact ⟨rfl, TkR.cm 4 (by decide)⟩
    · rw [rSi, if_neg u60, if_pos u62, if_neg (fun z => b61 ((eb 61 (by decide) (by decide)).mp z)), cSi, show cDk (T j) (cBh T s j) = 39 by rw [cDk, if_neg (fun z => b61 z.2), if_neg (fun z => x60 z.1), if_neg (fun z => b61 z.2)], if_pos rfl, x62]
      exact ⟨rfl, TkR.cm 5 (by decide)⟩
  have u60 : ¬ U j = 60 := fun z => x60 ((ex 60 (by decide) (by decide)).mp z)
  have u62 : ¬ U j = 62 := fun z => x62 ((ex 62 (by decide) (by decide)).mp z)
  rw [rSi, if_neg u60, if_neg u62, cSi, show cDk (T j) (cBh T s j) = 39 by rw [cDk, if_neg (fun z => x60 z.1), if_neg (fun z => x60 z.1), if_neg (fun z => x62 z.1)], if_pos rfl]
  by_cases x61 : T j = 61
  · rw [if_pos ((ex 61 (by decide) (by decide)).mpr x61), x61]
    exact ⟨rfl, TkR.cm 2 (by decide)⟩
  rw [if_neg (fun z => x61 ((ex 61 (by decide) (by decide)).mp z))]
  by_cases x59 : T j = 59
  · have u59 := (ex 59 (by decide) (by decide)).mpr x59
    rw [if_pos (Or.inl u59), u59, x59]
    exact ⟨rfl, TkR.sg (show sgR 59 (cSk 59) by simp only [sgR]; decide)⟩
  by_cases x40 : T j = 40
  · have u40 := (ex 40 (by decide) (by decide)).mpr x40
    rw [if_pos (Or.inr (Or.inl u40)), u40, x40]
    exact ⟨rfl, TkR.sg (show sgR 40 (cSk 40) by simp only [sgR]; decide)⟩
  by_cases x41 : T j = 41
  · have u41 := (ex 41 (by decide) (by decide)).mpr x41
    rw [if_pos (Or.inr (Or.inr (Or.inl u41))), u41, x41]
    exact ⟨rfl, TkR.sg (show sgR 41 (cSk 41) by simp only [sgR]; decide)⟩
  by_cases x43 : T j = 43
  · have u43 := (ex 43 (by decide) (by decide)).mpr x43
    rw [if_pos (Or.inr (Or.inr (Or.inr (Or.inl u43)))), u43, x43]
    exact ⟨rfl, TkR.sg (show sgR 43 (cSk 43) by simp only [sgR]; decide)⟩
  by_cases x45 : T j = 45
  · have u45 := (ex 45 (by decide) (by decide)).mpr x45
    rw [if_pos (Or.inr (Or.inr (Or.inr (Or.inr (Or.inl u45))))), u45, x45]
    exact ⟨rfl, TkR.sg (show sgR 45 (cSk 45) by simp only [sgR]; decide)⟩
  by_cases x42 : T j = 42
  · have u42 := (ex 42 (by decide) (by decide)).mpr x42
    rw [if_pos (Or.inr (Or.inr (Or.inr (Or.inr (Or.inr (Or.inl u42)))))), u42, x42]
    exact ⟨rfl, TkR.sg (show sgR 42 (cSk 42) by simp only [sgR]; decide)⟩
  by_cases x47 : T j = 47
  · have u47 := (ex 47 (by decide) (by decide)).mpr x47
    rw [if_pos (Or.inr (Or.inr (Or.inr (Or.inr (Or.inr (Or.inr (Or.inl u47))))))), u47, x47]
    exact ⟨rfl, TkR.sg (show sgR 47 (cSk 47) by simp only [sgR]; decide)⟩
  by_cases x37 : T j = 37
  · have u37 := (ex 37 (by decide) (by decide)).mpr x37
    rw [if_pos (Or.inr (Or.inr (Or.inr (Or.inr (Or.inr (Or.inr (Or.inr (u37)))))))), u37, x37]
    exact ⟨rfl, TkR.bad (Or.inr ⟨rfl, rfl⟩)⟩
  rw [if_neg (fun z => z.elim (fun z => x59 ((ex 59 (by decide) (by decide)).mp z)) (fun z => z.elim (fun z => x40 ((ex 40 (by decide) (by decide)).mp z)) (fun z => z.elim (fun z => x41 ((ex 41 (by decide) (by decide)).mp z)) (fun z => z.elim (fun z => x43 ((ex 43 (by decide) (by decide)).mp z)) (fun z => z.elim (fun z => x45 ((ex 45 (by decide) (by decide)).mp z)) (fun z => z.elim (fun z => x42 ((ex 42 (by decide) (by decide)).mp z)) (fun z => z.elim (fun z => x47 ((ex 47 (by decide) (by decide)).mp z)) (fun z => x37 ((ex 37 (by decide) (by decide)).mp z))))))))), show cSk (T j) = 39 by rw [cSk, if_neg x40, if_neg x41, if_neg x42, if_neg x43, if_neg x45, if_neg x47, if_neg x59, if_neg x60, if_neg x61, if_neg x62]]
  exact ⟨rfl, TkR.bad (Or.inl rfl)⟩
theorem cEq_R {T U : Nat → Int32} {s : Nat} (h : tbR T U s) : ∀ w p, p + w.length ≤ s → (∀ c ∈ w, c < 128) → (cEq T s p w ↔ rWE U p w) := by
  intro w
  induction w with
  | nil => intro p _ _; exact ⟨fun _ i hi => absurd hi (Nat.not_lt_zero _), fun _ => trivial⟩
  | cons c w ih =>
    intro p hp hc
    rw [List.length_cons] at hp
    obtain ⟨hb, hu⟩ := h p (by omega)
    have i2 := ih (p + 1) (by omega) (fun c h => hc c (List.mem_cons_of_mem _ h))
    have hc0 := hc c List.mem_cons_self
    have e : T p = nI c ↔ U p = nI c := by rw [hu]; exact hb.e (nI_le (a := 0) (Nat.zero_le _) (by omega)) (nI_lt (b := 128) hc0 (by decide))
    constructor
    · intro z i hi
      cases i with
      | zero => exact (e.mp z.2.1).symm
      | succ i => rw [show p + (i + 1) = p + 1 + i by omega]; exact i2.mp z.2.2 i (by rw [List.length_cons] at hi; omega)
    · intro z
      refine ⟨by omega, e.mpr (z 0 (by simp)).symm, i2.mpr (fun i hi => ?_)⟩
      rw [show p + 1 + i = p + (i + 1) by omega]
      exact z (i + 1) (by rw [List.length_cons]; omega)
theorem cWk_c (T : Nat → Int32) (s p n : Nat) : ∀ ws m, (∃ q, ∃ h : q < ws.length, (ws[q].length = n ∧ cEq T s p ws[q]) ∧ cWk T s p n ws m = nI (m + q)) ∨ ((∀ q, ∀ h : q < ws.length, ¬ (ws[q].length = n ∧ cEq T s p ws[q])) ∧ cWk T s p n ws m = -1) := by
  intro ws
  induction ws with
  | nil => intro m; exact Or.inr ⟨fun q h => absurd h (Nat.not_lt_zero _), rfl⟩
  | cons w ws ih =>
    intro m
    by_cases q : w.length = n ∧ cEq T s p w
    · exact Or.inl ⟨0, by simp, q, by rw [cWk]; exact @if_pos _ (Classical.propDecidable _) q _ _ _⟩
    · have e : cWk T s p n (w :: ws) m = cWk T s p n ws (m + 1) := by rw [cWk]; exact @if_neg _ (Classical.propDecidable _) q _ _ _
      rcases ih (m + 1) with ⟨k, hk, h1, h2⟩ | ⟨h1, h2⟩
      · exact Or.inl ⟨k + 1, by rw [List.length_cons]; omega, h1, by rw [e, h2, show m + 1 + k = m + (k + 1) by omega]⟩
      · refine Or.inr ⟨fun k hk => ?_, by rw [e, h2]⟩
        cases k with
        | zero => exact q
        | succ k => exact h1 k (by rw [List.length_cons] at hk; omega)
theorem rWk_c (T : Nat → Int32) (p n : Nat) : ∀ ws m, (∃ q, ∃ h : q < ws.length, (ws[q].length = n ∧ rWE T p ws[q]) ∧ rWk T p n ws m = nI (m + q)) ∨ ((∀ q, ∀ h : q < ws.length, ¬ (ws[q].length = n ∧ rWE T p ws[q])) ∧ rWk T p n ws m = -1) := by
  intro ws
  induction ws with
  | nil => intro m; exact Or.inr ⟨fun q h => absurd h (Nat.not_lt_zero _), rfl⟩
  | cons w ws ih =>
    intro m
    by_cases q : w.length = n ∧ rWE T p w
    · exact Or.inl ⟨0, by simp, q, rWk_t q⟩
    · have e := rWk_f (ws := ws) (m := m) q
      rcases ih (m + 1) with ⟨k, hk, h1, h2⟩ | ⟨h1, h2⟩
      · exact Or.inl ⟨k + 1, by rw [List.length_cons]; omega, h1, by rw [e, h2, show m + 1 + k = m + (k + 1) by omega]⟩
      · refine Or.inr ⟨fun k hk => ?_, by rw [e, h2]⟩
        cases k with
        | zero => exact q
        | succ k => exact h1 k (by rw [List.length_cons] at hk; omega)
theorem rWE_u {T : Nat → Int32} {p : Nat} {w z : List Nat} (hl : w.length = z.length) (hw : ∀ c ∈ w, c < 128) (hz : ∀ c ∈ z, c < 128) (h1 : rWE T p w) (h2 : rWE T p z) : w = z := by
  refine List.ext_getElem hl (fun i h h' => ?_)
  have a := hw _ (List.getElem_mem h)
  have b := hz _ (List.getElem_mem h')
  exact (nI_eq (by omega) (by omega)).mp ((h1 i h).trans (h2 i h').symm)
theorem cW_l : ∀ w ∈ cWords, ∀ c ∈ w, c < 128 := by decide +kernel
theorem rW_l : ∀ w ∈ rWords, ∀ c ∈ w, c < 128 := by decide +kernel
theorem kM_w : ∀ q, q < 23 → kMap q < 23 ∧ cWords[q]? = rWords[kMap q]? := by decide +kernel
theorem kM_i : ∀ q, q < 23 → ∃ k, k < 23 ∧ kMap k = q := by
  intro q hq
  have : ∀ q, q < 23 → kMap (if q < 9 then q else if q = 9 then 12 else if q < 13 then q - 1 else if q < 16 then q + 7 else q - 3) = q ∧ (if q < 9 then q else if q = 9 then 12 else if q < 13 then q - 1 else if q < 16 then q + 7 else q - 3) < 23 := by decide +kernel
  exact ⟨_, (this q hq).2, (this q hq).1⟩
theorem rW_d : ∀ a, a < 23 → ∀ b, b < 23 → rWords[a]? = rWords[b]? → a = b := by decide +kernel
/-- both find the same word -/
theorem cWk_R {T U : Nat → Int32} {s : Nat} (h : tbR T U s) {p n : Nat} (hp : p + n ≤ s) : (∃ m, m < 23 ∧ cWk T s p n cWords 0 = nI m ∧ rWk U p n rWords 0 = nI (kMap m)) ∨ (cWk T s p n cWords 0 = -1 ∧ rWk U p n rWords 0 = -1) := by
  have hlc : cWords.length = 23 := by decide
  have hlr : rWords.length = 23 := by decide
  have key : ∀ q, ∀ h1 : q < cWords.length, ∀ h2 : kMap q < rWords.length, cWords[q] = rWords[kMap q] := fun q h1 h2 => by
    have := (kM_w q (by omega)).2
    rw [List.getElem?_eq_getElem h1, List.getElem?_eq_getElem h2] at this
    exact Option.some.inj this
  have tr : ∀ w ∈ cWords, w.length = n → (cEq T s p w ↔ rWE U p w) := fun w hw hn => cEq_R h w p (by omega) (cW_l w hw)
  rcases cWk_c T s p n cWords 0 with ⟨q, hq, h1, h2⟩ | ⟨h1, h2⟩
  · left
    have hkr : kMap q < rWords.length := by rw [hlr]; exact (kM_w q (by omega)).1
    refine ⟨q, by omega, by rw [h2, Nat.zero_add], ?_⟩
    have e := key q hq hkr
    have hE : rWE U p rWords[kMap q] := by rw [← e]; exact (tr _ (List.getElem_mem _) h1.1).mp h1.2
    have hL : rWords[kMap q].length = n := by rw [← e]; exact h1.1
    rcases rWk_c U p n rWords 0 with ⟨k, hk2, h3, h4⟩ | ⟨h3, h4⟩
    · have hu := rWE_u (h3.1.trans hL.symm) (rW_l _ (List.getElem_mem _)) (rW_l _ (List.getElem_mem _)) h3.2 hE
      have : k = kMap q := rW_d k (by omega) _ (by omega) (by rw [List.getElem?_eq_getElem hk2, List.getElem?_eq_getElem hkr, hu])
      rw [h4, Nat.zero_add, this]
    · exact absurd ⟨hL, hE⟩ (h3 _ hkr)
  · right
    refine ⟨h2, ?_⟩
    rcases rWk_c U p n rWords 0 with ⟨k, hk2, h3, h4⟩ | ⟨h3, h4⟩
    · obtain ⟨q, hq, rfl⟩ := kM_i k (by omega)
      have e := key q (by omega) hk2
      exact absurd ⟨by rw [e]; exact h3.1, (tr _ (List.getElem_mem _) (by rw [e]; exact h3.1)).mpr (by rw [e]; exact h3.2)⟩ (h1 q (by omega))
    · exact h4
