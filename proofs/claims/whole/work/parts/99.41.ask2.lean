/-! law, count, sag, loan; see, strikes, known -/
theorem nIi {a : Nat} (h : a < 2 ^ 31) : (nI a).toInt = a := Int32.toInt_ofNat_of_lt h
theorem in0.lt0 {x : Int32} {a b : Nat} (h : in0 x a b) (hb : b < 2 ^ 31) : ¬ x < 0 := by
  obtain ⟨n, -, h2, rfl⟩ := h
  intro z
  have z1 := Int32.lt_iff_toInt_lt.mp z
  rw [nIi (by omega)] at z1
  have e0 : (0 : Int32).toInt = 0 := by decide
  omega
theorem in0.ad {x y : Int32} {a b c : Nat} (h : in0 x 0 a) (g : in0 y 0 b) (hc : a + b ≤ c) : in0 (x + y) 0 c := by
  obtain ⟨n, -, h2, rfl⟩ := h
  obtain ⟨k, -, g2, rfl⟩ := g
  exact ⟨n + k, by omega, by omega, nI_add n k⟩
theorem in0.mo {x : Int32} {a b c : Nat} (h : in0 x a b) (hc : b ≤ c) : in0 x 0 c := by
  obtain ⟨n, -, h2, rfl⟩ := h
  exact ⟨n, by omega, by omega, rfl⟩
theorem in0.hf {x : Int32} {a : Nat} (h : in0 x 0 a) (ha : a < 2 ^ 31) : in0 (x / 2) 0 a := by
  obtain ⟨n, -, h2, rfl⟩ := h
  exact ⟨n / 2, by omega, by omega, pk_div (d := 2) (by omega) (by omega) (by omega)⟩
theorem in0.wl {v : Int64} {wo : Int32} (h : in0 wo 0 9999) : in0 (sWl v 9999 wo) 0 9999 := by
  unfold sWl
  by_cases c1 : v = -9223372036854775808
  · rw [if_pos c1]; exact h
  · rw [if_neg c1]
    by_cases c2 : v < 0
    · rw [if_pos c2]; exact ⟨0, by omega, by omega, rfl⟩
    · rw [if_neg c2]
      by_cases c3 : (9999 : Int32).toInt64 < v
      · rw [if_pos c3]; exact ⟨9999, by omega, by omega, rfl⟩
      · rw [if_neg c3]
        have z2 : ¬ v.toInt < (0 : Int64).toInt := fun z => c2 (Int64.lt_iff_toInt_lt.mpr z)
        have z3 : ¬ (9999 : Int32).toInt64.toInt < v.toInt := fun z => c3 (Int64.lt_iff_toInt_lt.mpr z)
        have e0 : (0 : Int64).toInt = 0 := by decide
        have e1 : (9999 : Int32).toInt64.toInt = 9999 := by decide
        refine ⟨v.toInt.toNat, by omega, by omega, Int32.toInt_inj.mp ?_⟩
        rw [nIi (by omega), Int64.toInt_toInt32]
        have : v.toInt.bmod (2 ^ 32) = v.toInt := by rw [Int.bmod_def]; split <;> omega
        omega
theorem in0.wo {x y : Int32} (h : in0 x 0 9999) (g : in0 y 0 99) : in0 (x - x * y / 100) 0 9999 := by
  obtain ⟨a, -, h2, rfl⟩ := h
  obtain ⟨b, -, g2, rfl⟩ := g
  have m1 : a * b ≤ a * 99 := Nat.mul_le_mul_left a g2
  have d1 : a * b / 100 ≤ a := Nat.div_le_of_le_mul (by omega)
  refine ⟨a - a * b / 100, by omega, by omega, ?_⟩
  have e : nI (a * b) / 100 = nI (a * b / 100) := pk_div (d := 100) (by omega) (by omega) (by omega)
  rw [pk_mul, e, pk_sub d1]
def Vw (n : Nat) (V : Nat → Nat → Int32) : Prop := ∀ j, j < n → V 9 j = 0 → in0 (V 5 j) 0 9999 ∧ in0 (V 6 j) 0 99
theorem in0.al {V : Nat → Nat → Int32} {n : Nat} (hv : Vok V n) (h : Vw n V) (L : Nat → (Nat → Int64) → Int64) (x t : Int32) : in0 (sAl V L x t) 0 9999 := by
  unfold sAl
  by_cases c : ¬ sTh V x ∨ (V 12 0 >>> (x &&& 31)) &&& 1 = 1
  · rw [if_pos c]; exact ⟨0, by omega, by omega, rfl⟩
  · rw [if_neg c]
    have c1 : sTh V x := Classical.byContradiction fun z => c (Or.inl z)
    obtain ⟨j, hj, rfl⟩ := hv.lt c1.1
    have c2 := c1.2
    rw [hv.c hj] at c2 ⊢
    have z := h j hj c2
    exact (z.1.wo z.2).wl
theorem in0.br {V : Nat → Nat → Int32} {n : Nat} (hv : Vok V n) (h : Vw n V) (h14 : in0 (V 14 0) 0 999) (L : Nat → (Nat → Int64) → Int64) : ∀ j, j ≤ n → in0 (sBr V L j) 0 (999 + 40000 * j)
  | 0, _ => h14.mo (by omega)
  | j + 1, hj => by
    have hn := hv.1
    have ih := in0.br hv h h14 L j (by omega)
    have a0 := in0.al hv h L (nI j) 0
    have a1 := in0.al hv h L (nI j) 1
    have a2 := in0.al hv h L (V 10 j) 1
    rw [sBr]
    by_cases c1 : V 9 j = 0
    · rw [if_pos c1]
      by_cases c2 : sTwo V (nI j) = 0
      · rw [if_pos c2]; exact ih.ad a0 (by omega)
      · rw [if_neg c2]
        by_cases c3 : V 10 j ≤ nI j
        · rw [if_pos c3]; exact ih.mo (by omega)
        · rw [if_neg c3]
          have w1 := a1.ad a2 (c := 19998) (by omega)
          exact ih.ad (w1.ad (w1.hf (by omega)) (c := 39996) (by omega)) (by omega)
    · rw [if_neg c1]; exact ih.mo (by omega)
theorem zN.b0 {np q n m t : Nat} {I : Nat → Nat → Int32} (h : zN np q n m I) (h6 : zQ t np q m I) (L : Nat → (Nat → Int64) → Int64) : in0 (sBr (vB I 56) L n) 0 1000000 :=
  (in0.br h.1.1 h.1.2.2.2.2.1 (h.1.2.2.2.2.2.2.2.1 ▸ h6.2.2.2.2.1) L n (Nat.le_refl _)).mo (by have := h.1.1.1; omega)
theorem sag_eq {B w : Int32} (h : ¬ B < 0) : sSg B w = if ¬ w < 1 ∧ ¬ 999 < w then rSag w B else -1 := by
  unfold sSg
  by_cases c1 : w < 1
  · rw [if_pos c1, if_neg (fun z => z.1 c1)]
  · rw [if_neg c1]
    by_cases c2 : w ≤ 999
    · rw [if_pos c2, if_pos ⟨c1, Int32.not_lt.mpr c2⟩]
      unfold sSag rSag
      by_cases c3 : B = 0
      · rw [if_pos c3, if_neg (by rw [c3]; exact Int32.lt_irrefl)]
      · rw [if_neg c3, if_pos (Int32.lt_of_le_of_ne (Int32.not_lt.mp h) (Ne.symm c3))]
        by_cases c4 : w * 100 / B < 9999
        · rw [if_pos c4, if_pos (Int32.le_of_lt c4)]
        · rw [if_neg c4]
          by_cases c5 : w * 100 / B ≤ 9999
          · rw [if_pos c5]; exact Int32.le_antisymm (Int32.not_lt.mp c4) c5
          · rw [if_neg c5]
    · rw [if_neg c2, if_neg (fun z => c2 (Int32.not_lt.mp z.2))]
theorem sag_Cl {E : xCl} {ex : Bool} (w : Int32) : Cl E ex yX10_sag [.ref 0, .int w] yX11_sag [.ref 347, .int w] := by
  intro I J P hX N hN
  obtain ⟨t, np, q, n, m, s, kb, u, sn, h⟩ := hX
  have h1 := h.1
  have h5 := h.2.2.2.2.1
  have h6 := h.2.2.2.2.2.1
  have h7 := h.2.2.2.2.2.2.1
  have hp := h7.2.2.2.2.2
  obtain ⟨J1, cc, -⟩ := k_sag (E := E) (ex := ex) (I := I) (V := vB I 56) (J := J) (P := P) h1.2.1 h1.1 h1.2.2.1 h1.2.2.2.2.2 h7.1.1 h5.1 w 0
  rw [wB_vB, sag_eq ((h7.b0 h6 _).lt0 (by omega))] at cc
  obtain ⟨e', J2, rr, -⟩ := k_rsag (E := E) (ex := ex) (I := I) (V := vR I 0) (e := I 347 52) (J := J1) (P := P) h1.2.1 rfl h7.rv.1 h7.rv.2 h5.2.1.x2 (Lv_7 I t) w 0
  rw [preR hp, postR hp, ← h7.2.1.br h7.1.1 h7.1.2.2.2.1 (LL.rf (Lv I t)) n (Nat.le_refl _)] at rr
  exact Cl.ro h (x_le (by omega) cc) (x_le (by omega) rr)
theorem loan_eq (B : Int32) (f g : Int32 → Int32) (hf : ∀ u, f u = B + g u) (w : Int32) : ∀ c j, sLn f w c j = rLn B g w c j
  | 0, _ => rfl
  | c + 1, j => by rw [sLn, rLn, hf, loan_eq B f g hf w c (j + 1)]
theorem loan_Cl {E : xCl} {ex : Bool} (w : Int32) : Cl E ex yX10_loan [.ref 0, .int w] yX11_loan [.ref 347, .int w] := by
  intro I J P hX N hN
  obtain ⟨t, np, q, n, m, s, kb, u, sn, h⟩ := hX
  have h1 := h.1
  have h5 := h.2.2.2.2.1
  have h7 := h.2.2.2.2.2.2.1
  have hp := h7.2.2.2.2.2
  obtain ⟨J1, cc, -⟩ := k_loan (E := E) (ex := ex) (I := I) (V := vB I 56) (J := J) (P := P) h1.2.1 h1.1 h1.2.2.1 h1.2.2.2.2.2 h7.1.1 h5.1 w 0
  rw [wB_vB] at cc
  obtain ⟨e', J2, rr, -⟩ := k_rloan (E := E) (ex := ex) (I := I) (V := vR I 0) (e := I 347 52) (J := J1) (P := P) h1.2.1 rfl h7.rv.1 h7.rv.2 h5.2.1.x2 (Lv_7 I t) w 0
  rw [preR hp, postR hp, ← h7.2.1.br h7.1.1 h7.1.2.2.2.1 (LL.rf (Lv I t)) n (Nat.le_refl _)] at rr
  have e2 : sLo (vR I 0) (Lv I t) = sLo (vB I 56) (Lv I t) := funext fun x => by unfold sLo; rw [h7.2.1.2.2.2.2.2]
  have e : sLoan (sBr (vB I 56) (Lv I t) n) (fun u => sBr (vB I 56) (Lv I t) n + sLo (vB I 56) (Lv I t) u) w = (if ¬ w < 1 ∧ ¬ 9999 < w then (if sBr (vB I 56) (Lv I t) n < w then rLn (sBr (vB I 56) (Lv I t) n) (sLo (vR I 0) (Lv I t)) w 999 1 else 0) else -1) := by
    rw [e2, ← loan_eq _ (fun u => sBr (vB I 56) (Lv I t) n + sLo (vB I 56) (Lv I t) u) _ (fun _ => rfl)]
    unfold sLoan
    by_cases c1 : w < 1
    · rw [if_pos c1, if_neg (fun z => z.1 c1)]
    · rw [if_neg c1]
      by_cases c2 : w ≤ 9999
      · rw [if_pos c2, if_pos (show ¬ w < 1 ∧ ¬ 9999 < w from ⟨c1, Int32.not_lt.mpr c2⟩)]
      · rw [if_neg c2, if_neg (fun z => c2 (Int32.not_lt.mp z.2))]
  rw [← e] at rr
  exact Cl.ro h (x_le (by omega) cc) (x_le (by omega) rr)
theorem law_Cl {E : xCl} {ex : Bool} (w x : Int32) : Cl E ex yX10_law [.ref 0, .int w, .int x] yX11_law [.ref 347, .int w, .int x] := by
  intro I J P hX N hN
  obtain ⟨t, np, q, n, m, s, kb, u, sn, h⟩ := hX
  have h1 := h.1
  have h5 := h.2.2.2.2.1
  have h7 := h.2.2.2.2.2.2.1
  have hp := h7.2.2.2.2.2
  by_cases c0 : ¬ w < 0 ∧ ¬ 2 < w
  · have c3 : ¬ (3 : Int32) ≤ w := fun z => c0.2 (Int32.lt_of_lt_of_le (by decide) z)
    obtain ⟨k, hk, rfl⟩ := in_lt (m := 3) (by omega) c0.1 (Int32.not_le.mp c3)
    obtain ⟨e', J2, rr⟩ : ∃ e' J2, _ := k_rlaw (E := E) (ex := ex) (I := I) (V := vR I 0) (e := I 347 52) (J := J) (P := P) h1.2.1 rfl h7.rv.1 h5.2.1.x2 (Lv_7 I t) hk x 0
    by_cases c1 : sTh (vB I 56) x
    · obtain ⟨J1, cc, -⟩ := k_law_t (E := E) (ex := ex) (I := I) (V := vB I 56) (J := J) (P := P) h1.2.1 h1.1 h1.2.2.1 h1.2.2.2.2.2 h7.1.1 h5.1 (w := nI k) (s := x) ⟨c0.1, c3, c1⟩ 0
      rw [wB_vB] at cc
      obtain ⟨e', J2, rr, -⟩ := k_rlaw (E := E) (ex := ex) (I := I) (V := vR I 0) (e := I 347 52) (J := J1) (P := P) h1.2.1 rfl h7.rv.1 h5.2.1.x2 (Lv_7 I t) hk x 0
      obtain ⟨j, hj, rfl⟩ := h7.1.1.lt c1.1
      rw [preR hp, postR hp, if_pos ((h7.2.1.th h7.1.1 _).mp c1), ← h7.2.1.two h7.1.1 hj, ← h7.2.1.nm h7.1.1 h7.1.2.2.2.1 hj] at rr
      rw [nI_clamp (by omega)] at cc
      exact Cl.ro h (x_le (by omega) cc) (x_le (by omega) rr)
    · have cc := k_law_n (E := E) (ex := ex) (I := I) (V := vB I 56) (J := J) (P := P) h1.2.1 h1.1 h1.2.2.1 h1.2.2.2.2.2 (w := nI k) (s := x) (fun z => c1 z.2.2) 0
      rw [wB_vB] at cc
      have rr := rr.1
      rw [preR hp, postR hp, if_neg (fun z => c1 ((h7.2.1.th h7.1.1 _).mpr z))] at rr
      exact Cl.ro h (x_le (by omega) cc) (x_le (by omega) rr)
  · have cc := k_law_n (E := E) (ex := ex) (I := I) (V := vB I 56) (J := J) (P := P) h1.2.1 h1.1 h1.2.2.1 h1.2.2.2.2.2 (w := w) (s := x) (fun z => c0 ⟨z.1, fun y => z.2.1 (by
        have a := Int32.lt_iff_toInt_lt.mp y
        refine Int32.le_iff_toInt_le.mpr ?_
        have e2 : (2 : Int32).toInt = 2 := by decide
        have e3 : (3 : Int32).toInt = 3 := by decide
        omega)⟩) 0
    rw [wB_vB] at cc
    have rr := k_rlaw_n (E := E) (ex := ex) (I := I) (V := vR I 0) (e := I 347 52) (J := J) (P := P) h1.2.1 rfl (w := w) (s := x) c0 0
    rw [preR hp, postR hp] at rr
    exact Cl.ro h (x_le (by omega) cc) (x_le (by omega) rr)
/-! count -/
theorem sTB_d {V : Nat → Nat → Int32} : ∀ n, n ≤ 32 → ∀ k, k < 32 → (dB (sTB V n) k ↔ k < n ∧ V 9 k = 0)
  | 0, _, k, hk => ⟨fun z => absurd z (dB_zero hk), fun z => absurd z.1 (by omega)⟩
  | n + 1, hn, k, hk => by
    have ih := sTB_d (V := V) n (by omega) k hk
    rw [sTB]
    by_cases c : V 9 n = 0
    · rw [if_pos c, dB_or _ (by omega) hk, ih]
      constructor
      · rintro (z | z)
        · exact ⟨by omega, z.2⟩
        · subst z; exact ⟨by omega, c⟩
      · intro z
        by_cases e : k = n
        · exact Or.inr e
        · exact Or.inl ⟨by omega, z.2⟩
    · rw [if_neg c, ih]
      constructor
      · intro z; exact ⟨by omega, z.2⟩
      · intro z
        refine ⟨?_, z.2⟩
        by_cases e : k = n
        · subst e; exact absurd z.2 c
        · omega
theorem sOn_w {V : Nat → Nat → Int32} {n : Nat} (hn : n ≤ 12) : ∀ j, j ≤ n → sOn V (sTB V n) j = sOw V (-1) (-1) j
  | 0, _ => rfl
  | j + 1, hj => by
    rw [sOn, sOw, sOn_w hn j (by omega)]
    have e := sTB_d (V := V) n (by omega) j (by omega)
    by_cases c : V 9 j = 0
    · rw [if_pos (e.mpr ⟨by omega, c⟩), if_pos ⟨c, Or.inl rfl, Or.inl rfl⟩]
    · rw [if_neg (fun z => c (e.mp z).2), if_neg (fun z => c z.1)]
theorem vE.cnt {np n m : Nat} {V W : Nat → Nat → Int32} (h : vE np n m V W) (w : Int32) : ∀ j, j ≤ n → sCnt V w j = sCnt W w j
  | 0, _ => rfl
  | j + 1, hj => by rw [sCnt, sCnt, (h.2.1 j (by omega)).2.2.2.2.2.2.1, h.cnt w j (by omega)]
theorem vE.out {np n m : Nat} {V W : Nat → Nat → Int32} (h : vE np n m V W) (w : Int32) : ∀ j, j ≤ m → sOut V w j = sOut W w j
  | 0, _ => rfl
  | j + 1, hj => by rw [sOut, sOut, h.2.2.1 j (by omega), h.out w j (by omega)]
theorem zS.kb {s kb : Nat} {I : Nat → Nat → Int32} (h : zS s kb I) : sKs I = nI kb ∧ rKb I = nI kb := by
  unfold sKs rKb
  rw [h.2.1, h.2.2.1, ← h.2.2.2.1]
  have h24 := h.1
  rcases h.2.2.2.2.1 with ⟨z, rfl⟩ | ⟨z, z2⟩
  · rw [z, if_pos rfl, if_neg (by decide)]; exact ⟨rfl, rfl⟩
  · rw [z, if_neg (nI_nm1 (by omega)), if_pos (show (0 : Int32) ≤ nI kb from nI_le (a := 0) (b := kb) (by omega) (by omega))]; exact ⟨rfl, rfl⟩
theorem count_Cl {E : xCl} {ex : Bool} (w : Int32) : Cl E ex yX10_count [.ref 0, .int w] yX11_count [.ref 347, .int w] := by
  intro I J P hX N hN
  obtain ⟨t, np, q, n, m, s, kb, u, sn, h⟩ := hX
  have h1 := h.1
  have h3 := h.2.2.1
  have h4 := h.2.2.2.1
  have h5 := h.2.2.2.2.1
  have h7 := h.2.2.2.2.2.2.1
  have h8 := h.2.2.2.2.2.2.2.1
  have h9 := h.2.2.2.2.2.2.2.2.1
  have hp := h7.2.2.2.2.2
  have cc := k_count (E := E) (ex := ex) (I := I) (V := vB I 56) (J := J) (P := P) h1.2.1 h1.1 h1.2.2.1 h1.2.2.2.2.2 h7.1.1 h4.1 h4.2.1 w 0
  rw [wB_vB] at cc
  have rr := k_rcount (E := E) (ex := ex) (I := I) (V := vR I 0) (e := I 347 52) (J := J) (P := P) h1.2.1 rfl h7.rv.1 h4.1 ((xu_ne (by omega)).trans h4.2.2.1) w 0
  rw [preR hp, postR hp] at rr
  have e : sCo (vB I 56) I t n m w = rCo (vR I 0) (xu I 347 2 0) n m w := by
    have v := h7.2.1
    have ek : rKb (xu I 347 2 0) = nI kb := by
      have := h8.kb.2
      unfold rKb at this ⊢
      rw [xu_ne (by omega), xu_ne (by omega)]; exact this
    unfold sCo rCo
    rw [xu_ne (by omega), xu_ne (by omega), xu_ne (by omega), xu_ne (by omega), xu_ne (by omega), h3.2.1, h3.2.2.1, h4.2.1, h4.2.2.1, h5.2.2, h8.2.1, h8.2.2.1, h8.kb.1, ek, h9.2.2.1, h9.2.2.2.2.1, sOn_w h7.1.1.1 n (Nat.le_refl _), v.ow _ _ n (Nat.le_refl _), v.cnt _ n (Nat.le_refl _), v.cnt _ n (Nat.le_refl _), v.cnt _ n (Nat.le_refl _), v.cnt _ n (Nat.le_refl _), v.out _ m (Nat.le_refl _), v.out _ m (Nat.le_refl _), v.2.2.2.1, v.2.2.2.2.1, v.2.2.2.2.2]
  rw [← e] at rr
  exact Cl.ro h (x_le (by omega) cc) (x_le (by omega) rr)
