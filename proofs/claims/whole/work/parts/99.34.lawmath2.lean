/-! a law of the program's text is the reference's: knot by knot -/
def Wq (kc kn pt ot : Nat → Int32) (s : Nat) : Nat → List Nat → Prop
  | 0, hs => hs = []
  | c + 1, hs => ∃ r, hs = (s + c) :: r ∧ ((Lf (kc (s + c)) (kn (s + c)) (pt (s + c)) ∧ Wq kc kn pt ot s c r) ∨ (kc (s + c) = nI 10022 ∧ kn (s + c) = 2 ∧ ∃ a, pt (s + c) = nI a ∧ Wq kc kn pt ot s c (a :: r)) ∨ ∃ k, wtB k (kn (s + c)) ∧ kc (s + c) = 10000 + k ∧ ∃ a b, pt (s + c) = nI a ∧ ot (s + c) = nI b ∧ Wq kc kn pt ot s c (b :: a :: r))
theorem Ws.q {K M : Nat → Nat → Int32} {s : Nat} : ∀ {c : Nat} {hs : List Nat}, Ws K M s c hs → Wq (K 508) (fun k => M 369 (64 + k)) (fun k => M 370 (64 + k)) (fun k => M 371 (64 + k)) s c hs
  | 0, _, h => h
  | c + 1, _, ⟨r, h, g⟩ => by
    refine ⟨r, h, ?_⟩
    rcases g with ⟨g1, g2⟩ | ⟨g1, g2, a, g3, g4⟩ | ⟨kc, g1, g2, a, b, g3, g4, g5⟩
    · exact Or.inl ⟨g1, g2.q⟩
    · exact Or.inr (Or.inl ⟨g1, g2, a, g3, g4.q⟩)
    · exact Or.inr (Or.inr ⟨kc, g1, g2, a, b, g3, g4, g5.q⟩)
theorem Wq.c {kc kn pt ot kc' kn' pt' ot' : Nat → Int32} {s : Nat} : ∀ {c : Nat} {hs : List Nat}, Wq kc kn pt ot s c hs → (∀ k, s ≤ k → k < s + c → kc' k = kc k ∧ kn' k = kn k ∧ pt' k = pt k ∧ ot' k = ot k) → Wq kc' kn' pt' ot' s c hs
  | 0, _, h, _ => h
  | c + 1, _, ⟨r, h, g⟩, e => by
    refine ⟨r, h, ?_⟩
    obtain ⟨e1, e2, e3, e4⟩ := e (s + c) (by omega) (by omega)
    rw [e1, e2, e3, e4]
    have ih : ∀ {hs : List Nat}, Wq kc kn pt ot s c hs → Wq kc' kn' pt' ot' s c hs := fun z => z.c (fun k h1 h2 => e k h1 (by omega))
    rcases g with ⟨g1, g2⟩ | ⟨g1, g2, a, g3, g4⟩ | ⟨k, g1, g2, a, b, g3, g4, g5⟩
    · exact Or.inl ⟨g1, ih g2⟩
    · exact Or.inr (Or.inl ⟨g1, g2, a, g3, ih g4⟩)
    · exact Or.inr (Or.inr ⟨k, g1, g2, a, b, g3, g4, ih g5⟩)
theorem Wq.in {kc kn pt ot : Nat → Int32} {s : Nat} : ∀ {c : Nat} {hs : List Nat}, Wq kc kn pt ot s c hs → hs.length ≤ c ∧ ∀ h ∈ hs, s ≤ h ∧ h < s + c
  | 0, _, h => by rw [h]; exact ⟨Nat.le_refl _, fun h hh => by cases hh⟩
  | c + 1, _, ⟨r, h, g⟩ => by
    subst h
    have key : r.length ≤ c ∧ ∀ h ∈ r, s ≤ h ∧ h < s + c := by
      rcases g with ⟨-, g2⟩ | ⟨-, -, a, -, g4⟩ | ⟨k, -, -, a, b, -, -, g5⟩
      · exact g2.in
      · have := g4.in
        exact ⟨by have := this.1; simp at this; omega, fun h hh => this.2 h (List.mem_cons_of_mem _ hh)⟩
      · have := g5.in
        exact ⟨by have := this.1; simp at this; omega, fun h hh => this.2 h (List.mem_cons_of_mem _ (List.mem_cons_of_mem _ hh))⟩
    refine ⟨by simp; exact key.1, fun h hh => ?_⟩
    rcases List.mem_cons.mp hh with rfl | hh
    · omega
    · have := key.2 h hh; omega
def wGo (kc : Nat → Int32) (N : Nat → Int64) (s : Nat) : Nat → Option (List Int64)
  | 0 => some []
  | c + 1 => match wGo kc N s c with
    | some l => wSt N (kc (s + c)) l
    | none => none
def rGo (kn pt ot : Nat → Int32) (N : Nat → Int64) (s : Nat) (g : Nat → Int64) : Nat → Int32 × (Nat → Int64)
  | 0 => (0, g)
  | c + 1 => ((rVl kn pt ot N (rGo kn pt ot N s g c).2 (rGo kn pt ot N s g c).1 (s + c)).1, upL (rGo kn pt ot N s g c).2 (s + c) (rVl kn pt ot N (rGo kn pt ot N s g c).2 (rGo kn pt ot N s g c).1 (s + c)).2)
theorem rRn_go (kn pt ot : Nat → Int32) (N : Nat → Int64) (s : Nat) (g : Nat → Int64) : ∀ d c, rRn kn pt ot N d (s + c) (rGo kn pt ot N s g c).1 (rGo kn pt ot N s g c).2 = rGo kn pt ot N s g (c + d)
  | 0, c => rfl
  | d + 1, c => by
    rw [rRn, show s + c + 1 = s + (c + 1) by omega, show c + (d + 1) = (c + 1) + d by omega]
    exact rRn_go kn pt ot N s g d (c + 1)
def wEnd (o : Option (List Int64)) : Int64 := match o with
  | some [x] => x
  | _ => -9223372036854775808
theorem wGo_none (kc : Nat → Int32) (N : Nat → Int64) (s : Nat) {c : Nat} (h : wGo kc N s c = none) : ∀ d, wGo kc N s (c + d) = none
  | 0 => h
  | d + 1 => by rw [show c + (d + 1) = (c + d) + 1 by omega, wGo, wGo_none kc N s h d]
theorem wRun_go (kc : Nat → Int32) (N : Nat → Int64) (s : Nat) : ∀ d c l, wGo kc N s c = some l → wRun kc N d (s + c) l = wEnd (wGo kc N s (c + d))
  | 0, c, l, h => by
    rw [Nat.add_zero, h]
    cases l with
    | nil => rfl
    | cons x t => cases t <;> rfl
  | d + 1, c, l, h => by
    rw [wRun]
    cases hs : wSt N (kc (s + c)) l with
    | none =>
      have : wGo kc N s (c + 1) = none := by rw [wGo, h]; exact hs
      rw [show c + (d + 1) = (c + 1) + d by omega, wGo_none kc N s this d]
      rfl
    | some l' =>
      have : wGo kc N s (c + 1) = some l' := by rw [wGo, h]; exact hs
      rw [show s + c + 1 = s + (c + 1) by omega, show c + (d + 1) = (c + 1) + d by omega]
      exact wRun_go kc N s d (c + 1) l' this
theorem rVl_e (kn pt ot : Nat → Int32) (N g : Nat → Int64) (i : Nat) : (rVl kn pt ot N g 1 i).1 = 1 := by
  have e1 : ¬ (1 : Int32) = 0 := by decide
  unfold rVl
  split
  · rfl
  · split
    · rfl
    · split
      · rfl
      · unfold rVo
        split
        · rfl
        · split
          · rfl
          · split
            · rw [rBd, if_pos (Or.inl e1)]
            · split
              · rw [rBd, if_pos (Or.inl e1)]
              · split
                · rw [rTm, if_pos (Or.inl e1)]
                · split
                  · rw [rDv, if_pos (Or.inl e1)]
                  · rfl
theorem map_up {g : Nat → Int64} {p : Nat} {v : Int64} {r : List Nat} (h : ∀ x ∈ r, x ≠ p) : r.map (upL g p v) = r.map g := List.map_congr_left (fun x hx => by simp [upL, h x hx])
theorem lf_n : ∀ x : Nat, x ≤ 9999 → nI x - 10000 < 20 := by
  intro x hx
  have e : (nI x - 10000).toInt = (x : Int) - 10000 := by
    rw [Int32.toInt_sub]
    have h1 : (nI x).toInt = x := by
      show (Int32.ofNat x).toInt = x
      exact Int32.toInt_ofNat_of_lt (by omega)
    have h2 : (10000 : Int32).toInt = 10000 := by decide
    rw [h1, h2]
    exact Int.bmod_eq_of_le (by omega) (by omega)
  rw [Int32.lt_iff_toInt_lt, e]
  have : (20 : Int32).toInt = 20 := by decide
  omega
theorem lf_m : ∀ m : Nat, m < 7 → nI (10013 + m) - 10000 < 20 ∧ 10000 ≤ nI (10013 + m) ∧ ¬ nI (10013 + m) - 10000 - 13 < 0 ∧ ¬ Int32.ofNat 7 ≤ nI (10013 + m) - 10000 - 13 ∧ (nI (10013 + m) - 10000 - 13).toNatClampNeg = m := by decide +kernel
theorem k10 (k : Int32) : 10000 + k - 10000 = k := by rw [Int32.add_comm]; exact Int32.add_sub_cancel k 10000
theorem wtB.k {k kr : Int32} (h : wtB k kr) : ¬ k < 20 ∧ ¬ k = 22 ∧ ¬ kr = 0 ∧ ¬ kr = 1 ∧ ¬ kr = 2 := by
  obtain ⟨h, h33, h22⟩ := h
  rcases h with ⟨h1, h2⟩ | ⟨h1, h2⟩ | ⟨h1, h2⟩ | ⟨h1, h2⟩ | ⟨q, hq, h1, h2⟩ | ⟨h1, h2⟩ | ⟨h1, h2⟩ | ⟨h1, h2⟩ | ⟨h1, h2⟩
  · exact absurd h1 h33
  · exact absurd h1 h22
  · rw [h1, h2]; decide
  · rw [h1, h2]; decide
  · have y : ∀ q, q < 6 → ¬ nI (23 + q) < 20 ∧ ¬ nI (23 + q) = 22 ∧ ¬ nI (5 + q) = 0 ∧ ¬ nI (5 + q) = 1 ∧ ¬ nI (5 + q) = 2 := by decide +kernel
    rw [h1, h2]; exact y q hq
  · rw [h1, h2]; decide
  · rw [h1, h2]; decide
  · rw [h1, h2]; decide
  · rw [h1, h2]; decide
/-- behind c knots both have the same values, or both have failed -/
theorem law_go {kc kn pt ot : Nat → Int32} {s : Nat} {N : Nat → Int64} (hN : Nok N) (g0 : Nat → Int64) : ∀ {c : Nat} {hs : List Nat}, Wq kc kn pt ot s c hs → s + c ≤ 64 → ((rGo kn pt ot N s g0 c).1 = 0 ∧ wGo kc N s c = some (hs.map (rGo kn pt ot N s g0 c).2) ∧ ∀ h ∈ hs, b12 ((rGo kn pt ot N s g0 c).2 h)) ∨ ((rGo kn pt ot N s g0 c).1 = 1 ∧ wGo kc N s c = none)
  | 0, _, h, _ => by rw [h]; exact Or.inl ⟨rfl, rfl, fun h hh => by cases hh⟩
  | c + 1, _, ⟨r, h, g⟩, h64 => by
    subst h
    rcases g with ⟨g1, g2⟩ | ⟨g1, g2, a, g3, g4⟩ | ⟨k, g1, g2, a, b, g3, g4, g5⟩
    · have hin := g2.in
      have hne : ∀ x ∈ r, x ≠ s + c := fun x hx => by have := hin.2 x hx; omega
      rcases law_go hN g0 g2 (by omega) with ⟨i1, i2, i3⟩ | ⟨i1, i2⟩
      · have key : ∃ v, b12 v ∧ rVl kn pt ot N (rGo kn pt ot N s g0 c).2 (rGo kn pt ot N s g0 c).1 (s + c) = (0, v) ∧ wSt N (kc (s + c)) (r.map (rGo kn pt ot N s g0 c).2) = some (v :: r.map (rGo kn pt ot N s g0 c).2) := by
          rcases g1 with ⟨x, x1, x2, x3, x4⟩ | ⟨m, x1, x2, x3, x4⟩
          · refine ⟨(nI x).toInt64, b12_32 _, by rw [rVl, if_pos x3, i1, x4], ?_⟩
            rw [x2, wSt.eq_def, if_pos (lf_n x x1), if_pos (by rw [List.length_map]; omega), wPl, if_neg (show ¬ (10000 : Int32) ≤ nI x from nI_ge (a := x) (b := 10000) (by omega) (by decide))]
            exact wCk_b (b12_32 _) _
          · obtain ⟨y1, y2, y3, y4, y5⟩ := lf_m m x1
            obtain ⟨w, hw⟩ := hN m x1
            refine ⟨N m, by rw [hw]; exact b12_32 _, by rw [rVl, if_neg (by rw [x3]; decide), if_pos x3, i1, x4, nI_clamp (by omega)], ?_⟩
            rw [x2, wSt.eq_def, if_pos y1, if_pos (by rw [List.length_map]; omega), wPl, if_pos y2, if_neg y3, if_neg y4, y5]
            exact wCk_b (by rw [hw]; exact b12_32 _) _
        obtain ⟨v, k1, k2, k3⟩ := key
        refine Or.inl ⟨by rw [rGo, k2], ?_, fun h hh => ?_⟩
        · rw [wGo, i2]
          show wSt N (kc (s + c)) _ = _
          rw [k3, rGo, k2, List.map_cons, map_up hne]
          simp [upL]
        · rw [rGo, k2]
          rcases List.mem_cons.mp hh with rfl | hh
          · simp only [upL, if_true]; exact k1
          · simp only [upL]; rw [if_neg (hne h hh)]; exact i3 h hh
      · refine Or.inr ⟨by rw [rGo, i1]; exact rVl_e _ _ _ _ _ _, by rw [wGo, i2]⟩
    · have hin := g4.in
      have hne : ∀ x ∈ r, x ≠ s + c := fun x hx => by have := hin.2 x (List.mem_cons_of_mem _ hx); omega
      have ha := hin.2 a List.mem_cons_self
      rcases law_go hN g0 g4 (by omega) with ⟨i1, i2, i3⟩ | ⟨i1, i2⟩
      · have k2 : rVl kn pt ot N (rGo kn pt ot N s g0 c).2 (rGo kn pt ot N s g0 c).1 (s + c) = (0, if (rGo kn pt ot N s g0 c).2 a = 0 then 1 else 0) := by
          rw [rVl, if_neg (by rw [g2]; decide), if_neg (by rw [g2]; decide), if_pos g2, i1, g3, nI_clamp (by omega)]
        refine Or.inl ⟨by rw [rGo, k2], ?_, fun h hh => ?_⟩
        · rw [wGo, i2]
          show wSt N (kc (s + c)) _ = _
          rw [g1, wSt.eq_def, if_neg (by decide), if_pos (by decide), rGo, k2, List.map_cons, List.map_cons, map_up hne]
          show wCk _ _ = _
          rw [wCk_b b12_01]
          simp [upL]
        · rw [rGo, k2]
          rcases List.mem_cons.mp hh with rfl | hh
          · simp only [upL, if_true]; exact b12_01
          · simp only [upL]; rw [if_neg (hne h hh)]; exact i3 h (List.mem_cons_of_mem _ hh)
      · refine Or.inr ⟨by rw [rGo, i1]; exact rVl_e _ _ _ _ _ _, by rw [wGo, i2]⟩
    · have hin := g5.in
      have hne : ∀ x ∈ r, x ≠ s + c := fun x hx => by have := hin.2 x (List.mem_cons_of_mem _ (List.mem_cons_of_mem _ hx)); omega
      have hb := hin.2 b List.mem_cons_self
      have ha := hin.2 a (List.mem_cons_of_mem _ List.mem_cons_self)
      have hk := g1.k
      rcases law_go hN g0 g5 (by omega) with ⟨i1, i2, i3⟩ | ⟨i1, i2⟩
      · have k2 : rVl kn pt ot N (rGo kn pt ot N s g0 c).2 (rGo kn pt ot N s g0 c).1 (s + c) = rVo (kn (s + c)) 0 ((rGo kn pt ot N s g0 c).2 a) ((rGo kn pt ot N s g0 c).2 b) := by
          rw [rVl, if_neg hk.2.2.1, if_neg hk.2.2.2.1, if_neg hk.2.2.2.2, i1, g3, g4, nI_clamp (by omega), nI_clamp (by omega)]
        have k3 : wGo kc N s (c + 1) = wCk (wJo k ((rGo kn pt ot N s g0 c).2 a) ((rGo kn pt ot N s g0 c).2 b)) (r.map (rGo kn pt ot N s g0 c).2) := by
          rw [wGo, i2]
          show wSt N (kc (s + c)) _ = _
          rw [g2, wSt.eq_def, k10, if_neg hk.1, if_neg hk.2.1, List.map_cons, List.map_cons]
        rcases jo g1 (i3 a (List.mem_cons_of_mem _ List.mem_cons_self)) (i3 b List.mem_cons_self) (r.map (rGo kn pt ot N s g0 c).2) with ⟨v, j1, j2, j3⟩ | ⟨v, j1, j2⟩
        · refine Or.inl ⟨by rw [rGo, k2, j1], ?_, fun h hh => ?_⟩
          · rw [k3, j2, rGo, k2, j1, List.map_cons, map_up hne]
            simp [upL]
          · rw [rGo, k2, j1]
            rcases List.mem_cons.mp hh with rfl | hh
            · simp only [upL, if_true]; exact j3
            · simp only [upL]; rw [if_neg (hne h hh)]; exact i3 h (List.mem_cons_of_mem _ (List.mem_cons_of_mem _ hh))
        · exact Or.inr ⟨by rw [rGo, k2, j1], by rw [k3, j2]⟩
      · refine Or.inr ⟨by rw [rGo, i1]; exact rVl_e _ _ _ _ _ _, by rw [wGo, i2]⟩
theorem Wq.ok {kc kn pt ot : Nat → Int32} {s : Nat} : ∀ {c : Nat} {hs : List Nat}, Wq kc kn pt ot s c hs → s + c ≤ 64 → ∀ i, s ≤ i → i < s + c → kOk kn pt ot i
  | 0, _, _, _, i, h1, h2 => by omega
  | c + 1, _, ⟨r, h, g⟩, h64, i, h1, h2 => by
    by_cases e : i = s + c
    · subst e
      rcases g with ⟨g1, g2⟩ | ⟨g1, g2, a, g3, g4⟩ | ⟨k, g1, g2, a, b, g3, g4, g5⟩
      · rcases g1 with ⟨x, x1, x2, x3, x4⟩ | ⟨m, x1, x2, x3, x4⟩
        · exact Or.inl x3
        · exact Or.inr (Or.inl ⟨x3, by rw [x4]; exact vp_in_nI x1 (by decide)⟩)
      · have ha := g4.in.2 a List.mem_cons_self
        exact Or.inr (Or.inr ⟨by rw [g2]; decide, by rw [g2]; decide, by rw [g3]; exact vp_in_nI (by omega) (by decide), Or.inl g2⟩)
      · have hb := g5.in.2 b List.mem_cons_self
        have ha := g5.in.2 a (List.mem_cons_of_mem _ List.mem_cons_self)
        have hk := g1.k
        exact Or.inr (Or.inr ⟨hk.2.2.1, hk.2.2.2.1, by rw [g3]; exact vp_in_nI (by omega) (by decide), Or.inr (by rw [g4]; exact vp_in_nI (by omega) (by decide))⟩)
    · rcases g with ⟨g1, g2⟩ | ⟨g1, g2, a, g3, g4⟩ | ⟨k, g1, g2, a, b, g3, g4, g5⟩
      · exact g2.ok (by omega) i h1 (by omega)
      · exact g4.ok (by omega) i h1 (by omega)
      · exact g5.ok (by omega) i h1 (by omega)
/-- a law told alike on both sides -/
theorem lw_R {I : Nat → Nat → Int32} {t l s e x : Nat} (h9 : I (t + 9) l = nI s) (h10 : I (t + 10) l = nI e) (h366 : I 366 l = 1) (h367 : I 367 l = nI s) (h368 : I 368 l = nI e) (hse : s < e) (he : e ≤ 64) (hw : Wq (I (t + 8)) (I 369) (I 370) (I 371) s (e - s) [x]) : LwR1 I l (Lv I t l) := by
  have hx : x = e - 1 := by
    obtain ⟨c, hc⟩ : ∃ c, e - s = c + 1 := ⟨e - s - 1, by omega⟩
    rw [hc] at hw
    obtain ⟨r, h1, -⟩ := hw
    have := (List.cons.inj h1).1
    omega
  refine Or.inr ⟨h366, s, e, h367, h368, hse, he, fun i h1 h2 => hw.ok (by omega) i h1 (by omega), fun N g hN => ?_⟩
  have e1 : rRn (I 369) (I 370) (I 371) N (e - s) s 0 g = rGo (I 369) (I 370) (I 371) N s g (e - s) := by
    have := rRn_go (I 369) (I 370) (I 371) N s g (e - s) 0
    rwa [Nat.zero_add] at this
  have e2 : Lv I t l N = wEnd (wGo (I (t + 8)) N s (e - s)) := by
    rw [Lv, if_neg (by rw [h9]; exact nI_pos (by omega)), h9, h10, nI_clamp (by omega), nI_clamp (by omega)]
    have := wRun_go (I (t + 8)) N s (e - s) 0 [] rfl
    rwa [Nat.zero_add] at this
  rw [e1, e2]
  rcases law_go hN g hw (by omega) with ⟨i1, i2, i3⟩ | ⟨i1, i2⟩
  · rw [i2]
    refine ⟨fun _ => ⟨by rw [← hx]; rfl, fun q => ?_⟩, fun q => absurd i1 q⟩
    have := i3 x List.mem_cons_self
    have q : (rGo (I 369) (I 370) (I 371) N s g (e - s)).2 x = -9223372036854775808 := q
    rw [q] at this
    exact not_min this
  · rw [i1, i2]
    exact ⟨fun q => absurd q (by decide), fun _ => rfl⟩
theorem lw_0 {I : Nat → Nat → Int32} {t l : Nat} (h9 : I (t + 9) l = -1) (h366 : I 366 l = 0) : LwR1 I l (Lv I t l) := Or.inl ⟨h366, fun N _ => by rw [Lv, if_pos (by rw [h9]; decide)]⟩
theorem wSt_7 {N N' : Nat → Int64} (h : ∀ q, q < 7 → N q = N' q) (c : Int32) (l : List Int64) : wSt N c l = wSt N' c l := by
  have e : wPl N c = wPl N' c := by
    unfold wPl
    split
    · split
      · rfl
      · split
        · rfl
        · rename_i h1 h2 h3
          refine h _ ?_
          have := vp_in_iff.mp (show vp_in (c - 10000 - 13) 7 from vin h2 h3 (by decide))
          have e : ((c - 10000 - 13).toNatClampNeg : Int) = (c - 10000 - 13).toInt := by
            rw [Int32.toNatClampNeg]
            omega
          omega
    · rfl
  unfold wSt
  rw [e]
theorem wRun_7 {N N' : Nat → Int64} (h : ∀ q, q < 7 → N q = N' q) (kc : Nat → Int32) : ∀ d p l, wRun kc N d p l = wRun kc N' d p l
  | 0, _, _ => rfl
  | d + 1, p, l => by
    rw [wRun, wRun, wSt_7 h]
    cases wSt N' (kc p) l with
    | none => rfl
    | some l' => exact wRun_7 h kc d (p + 1) l'
theorem Lv_7 (I : Nat → Nat → Int32) (t : Nat) : L7 (Lv I t) := fun w N N' h => by
  unfold Lv
  rw [wRun_7 h]
