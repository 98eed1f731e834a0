/-! views that are alike as far as anybody, any strand, any crossing goes: they bear, fray, grow and pay alike -/
def vE (np n m : Nat) (V W : Nat → Nat → Int32) : Prop := (∀ k, k < np → V 1 k = W 1 k ∧ V 2 k = W 2 k) ∧ (∀ k, k < n → V 3 k = W 3 k ∧ V 4 k = W 4 k ∧ V 5 k = W 5 k ∧ V 6 k = W 6 k ∧ V 7 k = W 7 k ∧ V 8 k = W 8 k ∧ V 9 k = W 9 k ∧ V 10 k = W 10 k ∧ bI (V 12 0) k = bI (W 12 0) k) ∧ (∀ k, k < m → V 11 k = W 11 k) ∧ V 13 0 = W 13 0 ∧ V 14 0 = W 14 0 ∧ V 15 0 = W 15 0
/-- those who owe and lend are people -/
def Bd (np n : Nat) (V : Nat → Nat → Int32) : Prop := ∀ k, k < n → vp_in (V 3 k) np ∧ vp_in (V 4 k) np
def tE (m : Nat) (T U : Nat → Nat → Int32) : Prop := ∀ j, j < m → T 6 j = U 6 j ∧ T 4 j = U 4 j ∧ T 5 j = U 5 j ∧ T 3 (T 4 j).toNatClampNeg = U 3 (T 4 j).toNatClampNeg
def LL (L M : Nat → (Nat → Int64) → Int64) : Prop := ∀ w, w < 3 → ∀ N, Nok N → L w N = M w N
theorem vE.rf (np n m : Nat) (V : Nat → Nat → Int32) : vE np n m V V := ⟨fun _ _ => ⟨rfl, rfl⟩, fun _ _ => ⟨rfl, rfl, rfl, rfl, rfl, rfl, rfl, rfl, rfl⟩, fun _ _ => rfl, rfl, rfl, rfl⟩
theorem vE.sy {np n m : Nat} {V W : Nat → Nat → Int32} (h : vE np n m V W) : vE np n m W V := by
  obtain ⟨h1, h2, h3, h4, h5, h6⟩ := h
  refine ⟨fun k hk => ⟨(h1 k hk).1.symm, (h1 k hk).2.symm⟩, fun k hk => ?_, fun k hk => (h3 k hk).symm, h4.symm, h5.symm, h6.symm⟩
  obtain ⟨a, b, c, d, e, f, g, i, j⟩ := h2 k hk
  exact ⟨a.symm, b.symm, c.symm, d.symm, e.symm, f.symm, g.symm, i.symm, j.symm⟩
theorem vE.tr {np n m : Nat} {V W X : Nat → Nat → Int32} (h : vE np n m V W) (h' : vE np n m W X) : vE np n m V X := by
  obtain ⟨h1, h2, h3, h4, h5, h6⟩ := h
  obtain ⟨g1, g2, g3, g4, g5, g6⟩ := h'
  refine ⟨fun k hk => ⟨(h1 k hk).1.trans (g1 k hk).1, (h1 k hk).2.trans (g1 k hk).2⟩, fun k hk => ?_, fun k hk => (h3 k hk).trans (g3 k hk), h4.trans g4, h5.trans g5, h6.trans g6⟩
  obtain ⟨a, b, c, d, e, f, g, i, j⟩ := h2 k hk
  obtain ⟨a', b', c', d', e', f', g', i', j'⟩ := g2 k hk
  exact ⟨a.trans a', b.trans b', c.trans c', d.trans d', e.trans e', f.trans f', g.trans g', i.trans i', j.trans j'⟩
/-- the same number put at the same place -/
theorem vE.x1 {np n m : Nat} {V W : Nat → Nat → Int32} (h : vE np n m V W) {f k : Nat} {v : Int32} (hf : f ≠ 12) : vE np n m (xu V f k v) (xu W f k v) := by
  obtain ⟨h1, h2, h3, h4, h5, h6⟩ := h
  have g : ∀ f' k', V f' k' = W f' k' → xu V f k v f' k' = xu W f k v f' k' := fun f' k' e => by
    show (if f' = f ∧ k' = k then v else V f' k') = (if f' = f ∧ k' = k then v else W f' k')
    rw [e]
  have g12 : ∀ (X : Nat → Nat → Int32), xu X f k v 12 0 = X 12 0 := fun X => xu_f _ _ (Ne.symm hf)
  refine ⟨fun q hq => ⟨g _ _ (h1 q hq).1, g _ _ (h1 q hq).2⟩, fun q hq => ?_, fun q hq => g _ _ (h3 q hq), g _ _ h4, g _ _ h5, g _ _ h6⟩
  obtain ⟨a, b, c, d, e, f', g', i, j⟩ := h2 q hq
  exact ⟨g _ _ a, g _ _ b, g _ _ c, g _ _ d, g _ _ e, g _ _ f', g _ _ g', g _ _ i, by rw [g12, g12]; exact j⟩
theorem Bd.xu {np n : Nat} {V : Nat → Nat → Int32} (h : Bd np n V) {f k : Nat} {v : Int32} (h3 : f ≠ 3) (h4 : f ≠ 4) : Bd np n (xu V f k v) := fun q hq => by
  rw [xu_f _ _ (Ne.symm h3), xu_f _ _ (Ne.symm h4)]; exact h q hq
theorem Vok.lt {V : Nat → Nat → Int32} {n : Nat} (h : Vok V n) {x : Int32} (hs : sSt V x) : ∃ j, j < n ∧ x = nI j := by
  obtain ⟨h0, h1, h2⟩ := hs
  rw [h.2.1] at h1
  have hn : n < 2 ^ 31 := by have := h.1; omega
  obtain ⟨q, hq, rfl⟩ := nI_of h0
  exact ⟨q, Classical.byContradiction (fun z => h1 (nI_le (by omega) hq)), rfl⟩
section CE
variable {np n m : Nat} {V W : Nat → Nat → Int32} {T U : Nat → Nat → Int32} {L M : Nat → (Nat → Int64) → Int64}
theorem vE.st (h : vE np n m V W) (x : Int32) : sSt V x ↔ sSt W x := by unfold sSt; rw [h.2.2.2.1]
theorem vE.th (h : vE np n m V W) (hv : Vok V n) (x : Int32) : sTh V x ↔ sTh W x := by
  constructor
  · intro q
    obtain ⟨j, hj, rfl⟩ := hv.lt q.1
    refine ⟨(h.st _).mp q.1, ?_⟩
    have := q.2
    rw [hv.c hj] at this ⊢
    rw [← (h.2.1 j hj).2.2.2.2.2.2.1]; exact this
  · intro q
    have q1 := (h.st _).mpr q.1
    obtain ⟨j, hj, rfl⟩ := hv.lt q1
    refine ⟨q1, ?_⟩
    have := q.2
    rw [hv.c hj] at this ⊢
    rw [(h.2.1 j hj).2.2.2.2.2.2.1]; exact this
theorem vE.two (h : vE np n m V W) (hv : Vok V n) {j : Nat} (hj : j < n) : sTwo V (nI j) = sTwo W (nI j) := by
  have e := (h.2.1 j hj).2.2.2.2.2.2.2.1
  unfold sTwo
  rw [hv.c hj, e]
  by_cases q : sTh V (W 10 j)
  · rw [if_pos q, if_pos ((h.th hv _).mp q)]
  · rw [if_neg q, if_neg (fun z => q ((h.th hv _).mpr z))]
theorem vE.nm (h : vE np n m V W) (hv : Vok V n) (hb : Bd np n V) {j : Nat} (hj : j < n) (t : Int32) : sNm V (nI j) t = sNm W (nI j) t := by
  obtain ⟨a, b, c, d, e, f, g, i, j'⟩ := h.2.1 j hj
  unfold sNm
  rw [hv.c hj, c, d, e, f, h.2.2.2.2.2, (h.1 _ (vlt (hb j hj).1)).1, a]
theorem vE.al (h : vE np n m V W) (hv : Vok V n) (hb : Bd np n V) (hL : LL L M) (x t : Int32) : sAl V L x t = sAl W M x t := by
  by_cases q : sTh V x
  · obtain ⟨j, hj, rfl⟩ := hv.lt q.1
    obtain ⟨a, b, c, d, e, f, g, i, j'⟩ := h.2.1 j hj
    have hb1 : (V 12 0 >>> (nI j &&& 31)) &&& 1 = (W 12 0 >>> (nI j &&& 31)) &&& 1 := j'
    unfold sAl
    rw [h.nm hv hb hj, hL 0 (by decide) _ (Nok_m _ _ _)]
    by_cases z : (V 12 0 >>> (nI j &&& 31)) &&& 1 = 1
    · rw [if_pos (Or.inr z), if_pos (Or.inr (hb1.symm.trans z))]
    · rw [if_neg (fun y => y.elim (fun y => y q) z), if_neg (fun y => y.elim (fun y => y ((h.th hv _).mp q)) (fun y => z (hb1.trans y))), hv.c hj, c, d]
  · rw [sAl_0 (Or.inl q), sAl_0 (Or.inl (fun z => q ((h.th hv _).mpr z)))]
theorem vE.br (h : vE np n m V W) (hv : Vok V n) (hb : Bd np n V) (hL : LL L M) : ∀ j, j ≤ n → sBr V L j = sBr W M j
  | 0, _ => h.2.2.2.2.1
  | j + 1, hj => by
    have e := (h.2.1 j (by omega)).2.2.2.2.2.2
    unfold sBr
    rw [vE.br h hv hb hL j (by omega), h.two hv (by omega), h.al hv hb hL, h.al hv hb hL (nI j) 1, h.al hv hb hL (V 10 j) 1, e.1, e.2.1]
theorem vE.C (h : vE np n m V W) (hv : Vok V n) (hb : Bd np n V) (hL : LL L M) (hT : tE m T U) {j : Nat} (hj : j < m) : vE np n m (stC V L n T j) (stC W M n U j) := by
  obtain ⟨t6, t4, t5, t3⟩ := hT j hj
  unfold stC
  rw [← t6, ← t4, ← t5, ← t3, ← h.2.2.2.2.2, ← h.br hv hb hL n (Nat.le_refl _)]
  split
  · split
    · exact h.x1 (by decide)
    · by_cases hp : (T 4 j).toNatClampNeg < np
      · rw [(h.1 _ hp).2]
        exact (h.x1 (by decide)).x1 (by decide)
      · have h' := h.x1 (f := 11) (k := j) (v := 1) (by decide)
        obtain ⟨g1, g2, g3, g4, g5, g6⟩ := h'
        refine ⟨fun q hq => ⟨?_, ?_⟩, fun q hq => ?_, fun q hq => ?_, ?_, ?_, ?_⟩
        · rw [xu_f _ _ (by decide), xu_f _ _ (by decide)]; exact (g1 q hq).1
        · have hne : q ≠ (T 4 j).toNatClampNeg := fun z => hp (by omega)
          rw [xu_k _ _ _ _ hne, xu_k _ _ _ _ hne]; exact (g1 q hq).2
        · have z := g2 q hq
          simp only [xu_f (xu V 11 j 1) _ (show (3 : Nat) ≠ 2 by decide), xu_f (xu W 11 j 1) _ (show (3 : Nat) ≠ 2 by decide), xu_f (xu V 11 j 1) _ (show (4 : Nat) ≠ 2 by decide), xu_f (xu W 11 j 1) _ (show (4 : Nat) ≠ 2 by decide), xu_f (xu V 11 j 1) _ (show (5 : Nat) ≠ 2 by decide), xu_f (xu W 11 j 1) _ (show (5 : Nat) ≠ 2 by decide), xu_f (xu V 11 j 1) _ (show (6 : Nat) ≠ 2 by decide), xu_f (xu W 11 j 1) _ (show (6 : Nat) ≠ 2 by decide), xu_f (xu V 11 j 1) _ (show (7 : Nat) ≠ 2 by decide), xu_f (xu W 11 j 1) _ (show (7 : Nat) ≠ 2 by decide), xu_f (xu V 11 j 1) _ (show (8 : Nat) ≠ 2 by decide), xu_f (xu W 11 j 1) _ (show (8 : Nat) ≠ 2 by decide), xu_f (xu V 11 j 1) _ (show (9 : Nat) ≠ 2 by decide), xu_f (xu W 11 j 1) _ (show (9 : Nat) ≠ 2 by decide), xu_f (xu V 11 j 1) _ (show (10 : Nat) ≠ 2 by decide), xu_f (xu W 11 j 1) _ (show (10 : Nat) ≠ 2 by decide), xu_f (xu V 11 j 1) _ (show (12 : Nat) ≠ 2 by decide), xu_f (xu W 11 j 1) _ (show (12 : Nat) ≠ 2 by decide)]
          exact z
        · rw [xu_f (xu V 11 j 1) _ (show (11 : Nat) ≠ 2 by decide), xu_f (xu W 11 j 1) _ (show (11 : Nat) ≠ 2 by decide)]; exact g3 q hq
        · rw [xu_f _ _ (by decide), xu_f _ _ (by decide)]; exact g4
        · rw [xu_f _ _ (by decide), xu_f _ _ (by decide)]; exact g5
        · rw [xu_f _ _ (by decide), xu_f _ _ (by decide)]; exact g6
  · exact h
theorem Bd.C (hb : Bd np n V) (L : Nat → (Nat → Int64) → Int64) (T : Nat → Nat → Int32) (j : Nat) : Bd np n (stC V L n T j) := by
  unfold stC; split
  · split
    · exact hb.xu (by decide) (by decide)
    · exact (hb.xu (by decide) (by decide)).xu (by decide) (by decide)
  · exact hb
theorem Bd.CA (hb : Bd np n V) (L : Nat → (Nat → Int64) → Int64) (T : Nat → Nat → Int32) : ∀ j, Bd np n (sCA V L n T j)
  | 0 => hb
  | j + 1 => (Bd.CA hb L T j).C L T j
theorem vE.CA (h : vE np n m V W) (hv : Vok V n) (hb : Bd np n V) (hL : LL L M) (hT : tE m T U) : ∀ j, j ≤ m → vE np n m (sCA V L n T j) (sCA W M n U j)
  | 0, _ => h
  | j + 1, hj => (vE.CA h hv hb hL hT j (by omega)).C (hv.okCA L T j) (hb.CA L T j) hL hT (by omega)
theorem Bd.fr (hb : Bd np n V) (i w : Int32) : Bd np n (sFr V i w) := by
  unfold sFr; split
  · split
    · exact hb.xu (by decide) (by decide)
    · exact (hb.xu (by decide) (by decide)).xu (by decide) (by decide)
  · exact hb
theorem Bd.FA (hb : Bd np n V) (L : Nat → (Nat → Int64) → Int64) : ∀ j, Bd np n (sFA V L j)
  | 0 => hb
  | j + 1 => by
    rw [sFA, stF]; split
    · exact (Bd.FA hb L j).fr _ _
    · exact Bd.FA hb L j
theorem Bd.GA (hb : Bd np n V) (L : Nat → (Nat → Int64) → Int64) : ∀ j, Bd np n (sGA V L j)
  | 0 => hb
  | j + 1 => by
    rw [sGA, stG]; split
    · exact (Bd.GA hb L j).xu (by decide) (by decide)
    · exact Bd.GA hb L j
theorem Bd.pay (hb : Bd np n V) (k : Nat) : Bd np n (sPay V k) := by
  unfold sPay sMv
  exact ((hb.xu (by decide) (by decide)).xu (by decide) (by decide)).xu (by decide) (by decide)
theorem Bd.PA (hb : Bd np n V) : ∀ j, Bd np n (sPA V j)
  | 0 => hb
  | j + 1 => by
    rw [sPA, stP]; split
    · split
      · exact Bd.PA hb j
      · exact (Bd.PA hb j).pay j
    · exact Bd.PA hb j
theorem vE.fr (h : vE np n m V W) (hv : Vok V n) {j : Nat} (hj : j < n) (w : Int32) : vE np n m (sFr V (nI j) w) (sFr W (nI j) w) := by
  obtain ⟨a, b, c, d, e, f, g, i, j'⟩ := h.2.1 j hj
  unfold sFr
  by_cases q : sTh V (nI j)
  · rw [if_pos q, if_pos ((h.th hv _).mp q), hv.c hj, d]
    split
    · exact h.x1 (by decide)
    · exact (h.x1 (by decide)).x1 (by decide)
  · rw [if_neg q, if_neg (fun z => q ((h.th hv _).mpr z))]; exact h
theorem vE.F (h : vE np n m V W) (hv : Vok V n) (hb : Bd np n V) (hL : LL L M) {j : Nat} (hj : j < n) : vE np n m (stF V L j) (stF W M j) := by
  unfold stF
  rw [← (h.2.1 j hj).2.2.2.2.2.2.1, h.two hv hj, h.nm hv hb hj, hL 1 (by decide) _ (Nok_m _ _ _)]
  split
  · exact h.fr hv hj _
  · exact h
theorem vE.FA (h : vE np n m V W) (hv : Vok V n) (hb : Bd np n V) (hL : LL L M) : ∀ j, j ≤ n → vE np n m (sFA V L j) (sFA W M j)
  | 0, _ => h
  | j + 1, hj => (vE.FA h hv hb hL j (by omega)).F (hv.okFA L j) (hb.FA L j) hL (by omega)
theorem vE.G (h : vE np n m V W) (hv : Vok V n) (hb : Bd np n V) (hL : LL L M) {j : Nat} (hj : j < n) : vE np n m (stG V L j) (stG W M j) := by
  unfold stG
  rw [← (h.2.1 j hj).2.2.2.2.2.2.1, h.two hv hj, h.nm hv hb hj, hL 2 (by decide) _ (Nok_m _ _ _), (h.2.1 j hj).2.2.1]
  split
  · exact h.x1 (by decide)
  · exact h
theorem vE.GA (h : vE np n m V W) (hv : Vok V n) (hb : Bd np n V) (hL : LL L M) : ∀ j, j ≤ n → vE np n m (sGA V L j) (sGA W M j)
  | 0, _ => h
  | j + 1, hj => (vE.GA h hv hb hL j (by omega)).G (hv.okGA L j) (hb.GA L j) hL (by omega)
theorem vE.pay (h : vE np n m V W) (hb : Bd np n V) {j : Nat} (hj : j < n) : vE np n m (sPay V j) (sPay W j) := by
  obtain ⟨a, b, c, d, e, f, g, i, j'⟩ := h.2.1 j hj
  have p3 := vlt (hb j hj).1
  have p4 := vlt (hb j hj).2
  rw [a] at p3
  rw [b] at p4
  unfold sPay sMv
  rw [a, b, c, (h.1 _ p3).1]
  have h1 := h.x1 (f := 1) (k := (W 3 j).toNatClampNeg) (v := W 1 (W 3 j).toNatClampNeg - W 5 j) (by decide)
  rw [(h1.1 _ p4).1]
  exact (h1.x1 (by decide)).x1 (by decide)
theorem vE.can (h : vE np n m V W) (hv : Vok V n) (hb : Bd np n V) {j : Nat} (hj : j < n) : sCan V (nI j) ↔ sCan W (nI j) := by
  obtain ⟨a, b, c, d, e, f, g, i, j'⟩ := h.2.1 j hj
  unfold sCan
  rw [h.th hv, hv.c hj, (h.1 _ (vlt (hb j hj).1)).1, a, c]
theorem vE.P (h : vE np n m V W) (hv : Vok V n) (hb : Bd np n V) {j : Nat} (hj : j < n) : vE np n m (stP V j) (stP W j) := by
  unfold stP
  rw [← h.2.2.2.2.2, ← (h.2.1 j hj).2.2.2.2.1]
  by_cases q : sCan V (nI j)
  · rw [if_pos q, if_pos ((h.can hv hb hj).mp q)]
    split
    · exact h
    · exact h.pay hb hj
  · rw [if_neg q, if_neg (fun z => q ((h.can hv hb hj).mpr z))]; exact h
theorem vE.PA (h : vE np n m V W) (hv : Vok V n) (hb : Bd np n V) : ∀ j, j ≤ n → vE np n m (sPA V j) (sPA W j)
  | 0, _ => h
  | j + 1, hj => (vE.PA h hv hb j (by omega)).P (hv.okPA j) (hb.PA j) (by omega)
theorem vE.ite {c : Prop} [Decidable c] {V' W' : Nat → Nat → Int32} (h : vE np n m V W) (h' : vE np n m V' W') : vE np n m (if c then V else V') (if c then W else W') := by split; exact h; exact h'
theorem Bd.ite {c : Prop} [Decidable c] {V' : Nat → Nat → Int32} (h : Bd np n V) (h' : Bd np n V') : Bd np n (if c then V else V') := by split; exact h; exact h'
theorem Bd.go (hb : Bd np n V) (L : Nat → (Nat → Int64) → Int64) (T : Nat → Nat → Int32) (m : Nat) (lo : Int32) : Bd np n (sGo V L n T m lo) := by
  unfold sGo
  have h1 := hb.CA L T m
  have h2 : Bd np n (if lo = 0 then sCA V L n T m else sFA (sCA V L n T m) L n) := Bd.ite h1 (h1.FA L n)
  have h3 : Bd np n (if lo = 4 then (if lo = 0 then sCA V L n T m else sFA (sCA V L n T m) L n) else sGA (if lo = 0 then sCA V L n T m else sFA (sCA V L n T m) L n) L n) := Bd.ite h2 (h2.GA L n)
  exact (Bd.ite h3 (h3.PA n)).xu (by decide) (by decide)
theorem vE.go (h : vE np n m V W) (hv : Vok V n) (hb : Bd np n V) (hL : LL L M) (hT : tE m T U) (lo : Int32) : vE np n m (sGo V L n T m lo) (sGo W M n U m lo) := by
  unfold sGo
  have v1 := hv.okCA L T m
  have b1 := hb.CA L T m
  have h1 := h.CA hv hb hL hT m (Nat.le_refl _)
  have v2 : Vok (if lo = 0 then sCA V L n T m else sFA (sCA V L n T m) L n) n := Vok.ite v1 (v1.okFA L n)
  have b2 : Bd np n (if lo = 0 then sCA V L n T m else sFA (sCA V L n T m) L n) := Bd.ite b1 (b1.FA L n)
  have h2 := vE.ite (c := lo = 0) h1 (h1.FA v1 b1 hL n (Nat.le_refl _))
  have v3 : Vok (if lo = 4 then (if lo = 0 then sCA V L n T m else sFA (sCA V L n T m) L n) else sGA (if lo = 0 then sCA V L n T m else sFA (sCA V L n T m) L n) L n) n := Vok.ite v2 (v2.okGA L n)
  have b3 : Bd np n (if lo = 4 then (if lo = 0 then sCA V L n T m else sFA (sCA V L n T m) L n) else sGA (if lo = 0 then sCA V L n T m else sFA (sCA V L n T m) L n) L n) := Bd.ite b2 (b2.GA L n)
  have h3 := vE.ite (c := lo = 4) h2 (h2.GA v2 b2 hL n (Nat.le_refl _))
  have h4 := vE.ite (c := lo = 1) h3 (h3.PA v3 b3 n (Nat.le_refl _))
  dsimp only
  rw [h4.2.2.2.2.2]
  exact h4.x1 (by decide)
theorem Bd.yr (hb : Bd np n V) (L : Nat → (Nat → Int64) → Int64) (T : Nat → Nat → Int32) (m : Nat) : ∀ j, Bd np n (sYr V L n T m j)
  | 0 => hb
  | j + 1 => (Bd.yr hb L T m j).go L T m (-1)
theorem vE.yr (h : vE np n m V W) (hv : Vok V n) (hb : Bd np n V) (hL : LL L M) (hT : tE m T U) : ∀ j, vE np n m (sYr V L n T m j) (sYr W M n U m j)
  | 0 => h
  | j + 1 => (vE.yr h hv hb hL hT j).go (hv.yr L T m j) (hb.yr L T m j) hL hT (-1)
theorem Bd.yl (hb : Bd np n V) (L : Nat → (Nat → Int64) → Int64) (T : Nat → Nat → Int32) (m : Nat) (lo : Int32) : ∀ j, Bd np n (sYl V L n T m lo j)
  | 0 => hb
  | j + 1 => (Bd.yl hb L T m lo j).go L T m lo
theorem vE.yl (h : vE np n m V W) (hv : Vok V n) (hb : Bd np n V) (hL : LL L M) (hT : tE m T U) (lo : Int32) : ∀ j, vE np n m (sYl V L n T m lo j) (sYl W M n U m lo j)
  | 0 => h
  | j + 1 => (vE.yl h hv hb hL hT lo j).go (hv.yl L T m lo j) (hb.yl L T m lo j) hL hT lo
end CE
