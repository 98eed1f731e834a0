/-! ahead, chance -/
theorem sGo_11 (V : Nat → Nat → Int32) (L : Nat → (Nat → Int64) → Int64) (n : Nat) (T : Nat → Nat → Int32) (m : Nat) (lo : Int32) (k : Nat) : sGo V L n T m lo 11 k = sCA V L n T m 11 k := by
  unfold sGo
  show xu _ 15 0 _ 11 k = _
  rw [xu_f _ _ (by omega)]
  have a2 : (if lo = 0 then sCA V L n T m else sFA (sCA V L n T m) L n) 11 k = sCA V L n T m 11 k := by
    split
    · rfl
    · rw [sFA_k _ _ (by omega) (by omega)]
  have a3 : (if lo = 4 then (if lo = 0 then sCA V L n T m else sFA (sCA V L n T m) L n) else sGA (if lo = 0 then sCA V L n T m else sFA (sCA V L n T m) L n) L n) 11 k = sCA V L n T m 11 k := by
    split
    · exact a2
    · rw [sGA_k _ _ (by omega)]; exact a2
  show (if lo = 1 then _ else sPA _ n) 11 k = _
  split
  · exact a3
  · rw [sPA_k _ (by omega) (by omega)]; exact a3
theorem stC_11 (V : Nat → Nat → Int32) (L : Nat → (Nat → Int64) → Int64) (n : Nat) (T : Nat → Nat → Int32) (j : Nat) {k : Nat} (h : k ≠ j) : stC V L n T j 11 k = V 11 k := by
  unfold stC
  split
  · split
    · exact xu_ne (by omega)
    · rw [xu_f _ _ (by decide)]; exact xu_ne (by omega)
  · rfl
theorem sCA_11 (V : Nat → Nat → Int32) (L : Nat → (Nat → Int64) → Int64) (n : Nat) (T : Nat → Nat → Int32) {i : Nat} : ∀ j, i < j → sCA V L n T j 11 i = sCA V L n T (i + 1) 11 i
  | 0, h => absurd h (by omega)
  | j + 1, h => by
    by_cases e : i = j
    · subst e; rfl
    · rw [sCA, stC_11 _ _ _ _ _ e]; exact sCA_11 V L n T j (by omega)
/-- refused at the j-th crossing of this year -/
def rD (V : Nat → Nat → Int32) (L : Nat → (Nat → Int64) → Int64) (n : Nat) (T : Nat → Nat → Int32) (j : Nat) : Prop := T 6 j = V 15 0 ∧ sBr (sCA V L n T j) L n < T 3 (T 4 j).toNatClampNeg + T 5 j
theorem rD_iff (V : Nat → Nat → Int32) (L : Nat → (Nat → Int64) → Int64) (n : Nat) (T : Nat → Nat → Int32) {m j : Nat} (hj : j < m) : (T 6 j = V 15 0 ∧ sCA V L n T m 11 j = 2) ↔ rD V L n T j := by
  unfold rD
  rw [sCA_11 V L n T m hj, sCA]
  have e15 := sCA_k V L n T (f := 15) (k := 0) (by omega) (by omega) j
  constructor
  · rintro ⟨z1, z2⟩
    refine ⟨z1, Classical.byContradiction fun z => ?_⟩
    unfold stC at z2
    rw [if_pos (by rw [e15]; exact z1), if_neg z, xu_f _ _ (by decide), xu_s] at z2
    exact absurd z2 (by decide)
  · rintro ⟨z1, z2⟩
    refine ⟨z1, ?_⟩
    unfold stC
    rw [if_pos (by rw [e15]; exact z1), if_pos z2, xu_s]
theorem sRf_s (V : Nat → Nat → Int32) (L : Nat → (Nat → Int64) → Int64) (n : Nat) (T : Nat → Nat → Int32) (j : Nat) : (rD V L n T j → sRf V L n T (j + 1) = if sRf V L n T j = -1 then nI j else sRf V L n T j) ∧ (¬ rD V L n T j → sRf V L n T (j + 1) = sRf V L n T j) := by
  have e15 := sCA_k V L n T (f := 15) (k := 0) (by omega) (by omega) j
  rw [sRf]
  unfold rfC rD
  rw [e15]
  constructor
  · rintro ⟨z1, z2⟩
    rw [if_pos z1, if_pos z2]
  · intro z
    by_cases c : T 6 j = V 15 0
    · rw [if_pos c, if_neg (fun y => z ⟨c, y⟩)]
    · rw [if_neg c]
theorem sRf_st (V : Nat → Nat → Int32) (L : Nat → (Nat → Int64) → Int64) (n : Nat) (T : Nat → Nat → Int32) {j : Nat} (h : sRf V L n T j ≠ -1) : ∀ i, sRf V L n T (j + i) = sRf V L n T j
  | 0 => rfl
  | i + 1 => by
    have ih := sRf_st V L n T h i
    have z := sRf_s V L n T (j + i)
    rw [← Nat.add_assoc]
    by_cases c : rD V L n T (j + i)
    · rw [z.1 c, ih, if_neg h]
    · rw [z.2 c, ih]
theorem rAf_s (V V' : Nat → Nat → Int32) (L : Nat → (Nat → Int64) → Int64) (n : Nat) (T : Nat → Nat → Int32) {m : Nat} (hm : m ≤ 8) (hV : ∀ j, j < m → V' 11 j = sCA V L n T m 11 j) : ∀ c j, j + c = m → sRf V L n T j = -1 → rAf T V' (V 15 0) c j = sRf V L n T m
  | 0, j, h, h2 => by
    have : j = m := by omega
    subst this
    rw [rAf]; exact h2.symm
  | c + 1, j, h, h2 => by
    have hj : j < m := by omega
    have z := sRf_s V L n T j
    have e := rD_iff V L n T hj
    rw [rAf, hV j hj]
    by_cases d : rD V L n T j
    · rw [if_pos (e.mpr d)]
      have w := z.1 d
      rw [if_pos h2] at w
      have := sRf_st V L n T (j := j + 1) (by rw [w]; exact nI_nm1 (by omega)) c
      rw [show j + 1 + c = m by omega] at this
      rw [this, w]
    · rw [if_neg (fun y => d (e.mp y))]
      exact rAf_s V V' L n T hm hV c (j + 1) (by omega) ((z.2 d).trans h2)
theorem sAd_r (F : Nat → Int32) : ∀ c j (r : Int32), r ≠ -1 → sAd F c j r = r
  | 0, _, _, _ => rfl
  | c + 1, j, r, h => by rw [sAd, if_neg h]
theorem rAh_s (W : Nat → Nat → Int32) (L : Nat → (Nat → Int64) → Int64) (n : Nat) (T : Nat → Nat → Int32) {m : Nat} (hm : m ≤ 8) (F : Nat → Int32) (hF : ∀ j, F j = sRf (sYr W L n T m j) L n T m) : ∀ c j, rAh T (sYr W L n T m) m c j = if sAd F c j (-1) = -1 then -2 else sAd F c j (-1)
  | 0, j => by rw [rAh, sAd, if_pos rfl]
  | c + 1, j => by
    have e : rAf T (sYr W L n T m (j + 1)) (sYr W L n T m j 15 0) m 0 = F j := by
      rw [hF, sYr]
      exact rAf_s _ _ L n T hm (fun i hi => sGo_11 _ _ _ _ _ _ _) m 0 (by omega) rfl
    rw [rAh, e, sAd, if_pos rfl]
    by_cases c1 : F j = -1
    · rw [if_pos c1, c1]; exact rAh_s W L n T hm F hF c (j + 1)
    · rw [if_neg c1, sAd_r F c (j + 1) (F j) c1, if_neg c1]
theorem vE.rf' {np n m : Nat} {V W T U : Nat → Nat → Int32} {L M : Nat → (Nat → Int64) → Int64} (h : vE np n m V W) (hv : Vok V n) (hb : Bd np n V) (hL : LL L M) (hT : tE m T U) : ∀ j, j ≤ m → sRf V L n T j = sRf W M n U j
  | 0, _ => rfl
  | j + 1, hj => by
    have z := h.CA hv hb hL hT j (by omega)
    have t := hT j (by omega)
    rw [sRf, sRf, h.rf' hv hb hL hT j (by omega)]
    unfold rfC
    rw [t.1, z.2.2.2.2.2, z.br (hv.okCA _ _ j) (hb.CA _ _ j) hL n (Nat.le_refl _), t.2.2.2, t.2.1, t.2.2.1]
theorem ahead_Cl {E : xCl} {ex : Bool} (x : Int32) : Cl E ex yX10_ahead [.ref 0, .int x] yX11_ahead [.ref 347, .int x] := by
  intro I J P hX N hN
  obtain ⟨t, np, q, n, m, s, kb, u, sn, h⟩ := hX
  have h1 := h.1
  have h2 := h.2.1
  have h3 := h.2.2.1
  have h4 := h.2.2.2.1
  have h5 := h.2.2.2.2.1
  have h7 := h.2.2.2.2.2.2.1
  have hp := h7.2.2.2.2.2
  have vv := h7.2.1
  by_cases c : ¬ x < 0 ∧ x ≤ 99
  · obtain ⟨k, -, hk, rfl⟩ := in0.of (a := 0) (b := 99) (by omega) c.1 (Int32.not_lt.mpr c.2) (by omega)
    obtain ⟨J1, W1, cc, -⟩ := k_ahead (E := E) (ex := ex) (I := I) (W := vB I 80) (J := J) h1.2.1 h1.1 h1.2.2.1 h1.2.2.2.2.2 h7.1.1 h5.1 h4.1 h4.2.1 h4.2.2.2.2 hk 0
    rw [wB_vB] at cc
    obtain ⟨e', J2, W2, rr, -, hf⟩ := k_rahead (E := E) (ex := ex) (I := wB I 80 W1) (e := wB I 80 W1 347 52) (J := J1) (h1.2.1.xb hb80 (t + 1)) rfl (hp.c (fun k => w80_e (by omega) (by omega))) (by rw [w80_v]; exact h7.rv.1) (by rw [w80_v]; exact h7.rv.2) (h5.2.1.of (fun a z1 z2 => funext fun k => w80_e (by omega) (by omega))) (Lv_7 I t) h4.1 ((w80_e (by omega) (by omega)).trans h4.2.2.1) (fun k => by rw [w80_e (by omega) (by omega)]; exact (h2.2.2.2.1 k).2.2.2) hk 0
    rw [wE_id, w80_v, w80_T, rAh_s (vR I 0) (Lv I t) n (rT I) h4.1 (fun j => sRf (sYr (vB I 56) (Lv I t) n (fun o => I (t + o)) m j) (Lv I t) n (fun o => I (t + o)) m) (fun j => (vv.yr h7.1.1 h7.1.2.2.2.1 (LL.rf (Lv I t)) (tE.z h3 h4) j).rf' (h7.1.1.yr _ _ _ j) (h7.1.2.2.2.1.yr _ _ _ j) (LL.rf (Lv I t)) (tE.z h3 h4) m (Nat.le_refl _))] at rr
    rw [w80_v] at hf
    exact Cl.tr h (x_le (by omega) cc) (x_le (by omega) rr) hf
  · have cc := k_ahead_n (E := E) (ex := ex) (I := I) (W := vB I 80) (J := J) (P := P) c 0
    rw [wB_vB] at cc
    have rr := k_rahead_n (E := E) (ex := ex) (I := I) (e := I 347 52) (J := J) h1.2.1 rfl (x := x) (fun z => c ⟨z.1, Int32.not_lt.mp z.2⟩) 0
    rw [wE_id] at rr
    exact Cl.ro h (x_le (by omega) cc) (x_le (by omega) rr)
theorem vE.fr' {np n m : Nat} {V W : Nat → Nat → Int32} (h : vE np n m V W) (hv : Vok V n) (i w : Int32) : vE np n m (sFr V i w) (sFr W i w) := by
  by_cases c : sTh V i
  · obtain ⟨j, hj, rfl⟩ := hv.lt c.1
    exact h.fr hv hj w
  · unfold sFr
    rw [if_neg c, if_neg (fun z => c ((h.th hv i).mpr z))]; exact h
theorem vE.bf {np n m : Nat} {V W : Nat → Nat → Int32} (h : vE np n m V W) (hv : Vok V n) (x : Int64) : vE np n m (sBfV V x) (sBfV W x) ∧ sBfL V x = sBfL W x := by
  unfold sBfV sBfL sIx
  rw [h.2.2.2.1, h.2.2.2.2.1]
  refine ⟨?_, rfl⟩
  split
  · exact h.x1 (by decide)
  · split
    · split
      · exact h
      · exact h.fr' hv _ _
    · exact h
theorem Bd.bf {np n : Nat} {V : Nat → Nat → Int32} (h : Bd np n V) (x : Int64) : Bd np n (sBfV V x) := by
  unfold sBfV
  split
  · exact h.xu (by decide) (by decide)
  · split
    · split
      · exact h
      · exact h.fr _ _
    · exact h
theorem vE.cy {np n m : Nat} {V W T U : Nat → Nat → Int32} {L M : Nat → (Nat → Int64) → Int64} (h : vE np n m V W) (hv : Vok V n) (hb : Bd np n V) (hL : LL L M) (hT : tE m T U) (x : Int64) : ∀ j, (sChY V L n T m x j).1 = (sChY W M n U m x j).1 ∧ vE np n m (sChY V L n T m x j).2 (sChY W M n U m x j).2 ∧ Bd np n (sChY V L n T m x j).2
  | 0 => ⟨rfl, h, hb⟩
  | j + 1 => by
    obtain ⟨i1, i2, i3⟩ := h.cy hv hb hL hT x j
    have v := hv.cy L T m x j
    have w := i2.bf v (sChY W M n U m x j).1
    rw [sChY, sChY]
    show sBfL _ _ = sBfL _ _ ∧ vE np n m (sGo _ _ _ _ _ _) (sGo _ _ _ _ _ _) ∧ Bd np n (sGo _ _ _ _ _ _)
    rw [i1]
    exact ⟨w.2, w.1.go (v.bf _) (i3.bf _) hL hT (-1), (i3.bf _).go _ _ _ _⟩
theorem vE.cd {np n m : Nat} {V W T U : Nat → Nat → Int32} {L M : Nat → (Nat → Int64) → Int64} (h : vE np n m V W) (hv : Vok V n) (hb : Bd np n V) (hL : LL L M) (hT : tE m T U) (k : Nat) (u : Int32) (x : Int64) : ∀ i, sChD V L n T m k u x i = sChD W M n U m k u x i
  | 0 => rfl
  | i + 1 => by
    have ih := h.cd hv hb hL hT k u x i
    obtain ⟨y1, y2, y3⟩ := h.cy hv hb hL hT (sChD W M n U m k u x i).1 k
    rw [sChD, sChD, ih, y1, y2.br (hv.cy L T m _ k) y3 hL n (Nat.le_refl _)]
theorem chance_Cl {E : xCl} {ex : Bool} (a c w : Int32) : Cl E ex yX10_chance [.ref 0, .int a, .int c, .int w] yX11_chance [.ref 347, .int a, .int c, .int w] := by
  intro I J P hX N hN
  obtain ⟨t, np, q, n, m, s, kb, u, sn, h⟩ := hX
  have h1 := h.1
  have h2 := h.2.1
  have h3 := h.2.2.1
  have h4 := h.2.2.2.1
  have h5 := h.2.2.2.2.1
  have h7 := h.2.2.2.2.2.2.1
  have hp := h7.2.2.2.2.2
  have vv := h7.2.1
  by_cases ok : okC a c w
  · have ok' : rOkC a c w := ⟨ok.1, ⟨ok.2.1, ok.2.2.1⟩, ok.2.2.2.1, Int32.not_lt.mpr ok.2.2.2.2⟩
    obtain ⟨k, -, hk, rfl⟩ := in0.of (a := 1) (b := 30) (by omega) ok.2.1 ok.2.2.1 (by omega)
    obtain ⟨J1, W1, cc, -⟩ := k_chance (E := E) (ex := ex) (I := I) (W := vB I 80) (J := J) h1.2.1 h1.1 h1.2.2.1 h1.2.2.2.2.2 h7.1.1 h5.1 h4.1 h4.2.1 h4.2.2.2.2 hk ok 0
    rw [wB_vB] at cc
    obtain ⟨e', J2, W2, rr, -, hf⟩ := k_rchance (E := E) (ex := ex) (I := wB I 80 W1) (e := wB I 80 W1 347 52) (J := J1) (h1.2.1.xb hb80 (t + 1)) rfl (hp.c (fun k => w80_e (by omega) (by omega))) (by rw [w80_v]; exact h7.rv.1) (by rw [w80_v]; exact h7.rv.2) (h5.2.1.of (fun a z1 z2 => funext fun k => w80_e (by omega) (by omega))) (Lv_7 I t) h4.1 ((w80_e (by omega) (by omega)).trans h4.2.2.1) (fun k => by rw [w80_e (by omega) (by omega)]; exact (h2.2.2.2.1 k).2.2.2) hk ok' 0
    rw [wE_id, w80_v, w80_T, ← vv.cd h7.1.1 h7.1.2.2.2.1 (LL.rf (Lv I t)) (tE.z h3 h4)] at rr
    rw [w80_v] at hf
    exact Cl.tr h (x_le (by omega) cc) (x_le (by omega) rr) hf
  · have cc := k_chance_n (E := E) (ex := ex) (I := I) (W := vB I 80) (J := J) (P := P) ok 0
    rw [wB_vB] at cc
    have rr := k_rchance_n (E := E) (ex := ex) (I := I) (e := I 347 52) (J := J) h1.2.1 rfl (s := a) (k := c) (u := w) (fun z => ok ⟨z.1, z.2.1.1, z.2.1.2, z.2.2.1, Int32.not_lt.mp z.2.2.2⟩) 0
    rw [wE_id] at rr
    exact Cl.ro h (x_le (by omega) cc) (x_le (by omega) rr)
