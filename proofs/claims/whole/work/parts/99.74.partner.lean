/-! partner, answered alike -/
/-- both sides' partner of a strand that is there -/
theorem partner_e {np n m : Nat} {V W : Nat → Nat → Int32} {g a0 m0 pc pr : Nat → Int32} (vv : vE np n m V W) (hv : Vok V n) (hb : Bd np n V) (hw : Vw n V) {p : Nat} (h14 : V 14 0 = nI p) (hp : p ≤ 999) (L : Nat → (Nat → Int64) → Int64) (hg : ∀ i, i < n → g i = sAl V L (nI i) 0) {k : Nat} (hk : k ≤ 5) {s : Nat} (hs : s < n) (h9 : V 9 s = 0) : (sCho g (cS.mk (sTB V n) (nI k) (sGain g (sTB V n) (nI k)) pc) 12).p s = tPa W (uA a0 (fun s => sAl W L (nI s) 0) n) (tAl W (uA a0 (fun s => sAl W L (nI s) 0) n) (uA m0 (fun _ => W 14 0) (k + 1)) n k (2 ^ n - 1)) (2 ^ n) (2 ^ n - 1) k pr s := by
  have n12 := hv.1
  have p12 : (2 : Nat) ^ n ≤ 2 ^ 12 := Nat.pow_le_pow_right (by omega) n12
  have pos : 0 < 2 ^ n := Nat.two_pow_pos n
  obtain ⟨q0, hT, hq⟩ := sTB_nI V n (by omega)
  have al : ∀ i, sAl V L (nI i) 0 = nI ((sAl V L (nI i) 0).toNatClampNeg) ∧ (sAl V L (nI i) 0).toNatClampNeg ≤ 9999 := fun i => by
    obtain ⟨z, -, z2, z3⟩ := in0.al hv hw L (nI i) 0
    rw [z3, nI_clamp (by omega)]; exact ⟨rfl, z2⟩
  have bits : ∀ i, i < n → (q0.testBit i = true ↔ V 9 i = 0) := fun i hi => by
    have z := sTB_d (V := V) n (by omega) i (by omega)
    rw [hT] at z
    have b : dB (nI q0) i ↔ q0.testBit i = true := bz_1 (by omega) (by omega)
    rw [← b, z]
    exact and_iff_right hi
  have eA : (2 ^ n - 1) &&& q0 = q0 := Nat.eq_of_testBit_eq fun i => by
    rw [Nat.testBit_and, Nat.testBit_two_pow_sub_one]
    by_cases c : q0.testBit i = true
    · have := bit_lt hq c
      rw [c]; simp [this]
    · have z : q0.testBit i = false := by simpa using c
      rw [z, Bool.and_false]
  obtain ⟨G, hG⟩ := isG.ex (fun i => (sAl V L (nI i) 0).toNatClampNeg) k q0
  have alW : ∀ i, sAl W L (nI i) 0 = sAl V L (nI i) 0 := fun i => (vv.al hv hb (LL.rf L) (nI i) 0).symm
  have ha : ∀ i, i < n → uA a0 (fun s => sAl W L (nI s) 0) n i = nI ((fun i => (sAl V L (nI i) 0).toNatClampNeg) i) ∧ (fun i => (sAl V L (nI i) 0).toNatClampNeg) i ≤ 9999 ∧ (¬ W 9 i = 0 → (fun i => (sAl V L (nI i) 0).toNatClampNeg) i = 0) := fun i hi => by
    refine ⟨by rw [uA_v _ _ n hi, alW]; exact (al i).1, (al i).2, fun c => ?_⟩
    have e9 := (vv.2.1 i hi).2.2.2.2.2.2.1
    have : sAl V L (nI i) 0 = 0 := by
      unfold sAl
      rw [if_pos (Or.inl (fun z => c (by rw [← e9]; exact (hv.t hi).mp z)))]
    show (sAl V L (nI i) 0).toNatClampNeg = 0
    rw [this]; rfl
  have hB : ∀ i, i < n → (q0.testBit i = true ↔ W 9 i = 0) := fun i hi => by rw [bits i hi, (vv.2.1 i hi).2.2.2.2.2.2.1]
  have tab := tab_v (V := W) (a := uA a0 (fun s => sAl W L (nI s) 0) n) (M := tAl W (uA a0 (fun s => sAl W L (nI s) 0) n) (uA m0 (fun _ => W 14 0) (k + 1)) n k (2 ^ n - 1)) (f := fun i => (sAl V L (nI i) 0).toNatClampNeg) (n := n) (k := k) (p := p) (Th := q0) n12 hk hp ha hB (fun j hj => by
      rw [tAl_0 _ _ _ _ hk (by omega), uA_v _ _ (k + 1) (by omega), ← vv.2.2.2.2.1]; exact h14) (fun S j s0 s1 s2 => tAl_law _ _ _ _ hk (by omega) s0 (by omega) s2)
  have gi : ∀ i, i < n → g i = nI ((fun i => (sAl V L (nI i) 0).toNatClampNeg) i) := fun i hi => (hg i hi).trans (al i).1
  have gn := (sGain_g (g := g) (S := q0) (by omega) (fun i _ hb => ⟨gi i (bit_lt hq hb), (al i).2⟩) (by omega) hG).1
  refine ptr_w (f := fun i => (sAl V L (nI i) 0).toNatClampNeg) (p0 := p) (Th := q0) (k := k) n12 hk hp ha hB (fun S j hS hj G hG => tab (S + 1) S (by omega) hS j hj G hG) gi (2 ^ n) (2 ^ n - 1) k G 0 pr pc (by omega) (by omega) (Nat.le_refl _) (by rw [eA]; exact hG) (by omega) (fun _ _ => Nat.zero_le _) ?_ (fun x hx hb => ?_) s ((bits s hs).mpr h9)
  · rw [sCho, eA, hT, gn]
  · have := bit_lt hq hx
    rw [Nat.testBit_two_pow_sub_one] at hb
    simp [this] at hb
theorem partner_Cl {E : xCl} {ex : Bool} (x y : Int32) : Cl E ex yX10_partner [.ref 0, .int x, .int y] yX11_partner [.ref 347, .int x, .int y] := by
  intro I J P hX N hN
  obtain ⟨t, np, q, n, m, s, kb, u, sn, h⟩ := hX
  have h1 := h.1
  have h5 := h.2.2.2.2.1
  have h6 := h.2.2.2.2.2.1
  have h7 := h.2.2.2.2.2.2.1
  have hp := h7.2.2.2.2.2
  have vv := h7.2.1
  by_cases c : okK x ∧ sTh (vB I 56) y
  · obtain ⟨k, -, hk, rfl⟩ := in0.of (a := 0) (b := 5) (by omega) c.1.1 (Int32.not_lt.mpr c.1.2) (by omega)
    obtain ⟨j, hj, rfl⟩ := h7.1.1.lt c.2.1
    obtain ⟨J1, cc, -⟩ := k_partner (E := E) (ex := ex) (I := I) (V := vB I 56) (J := J) h1.2.1 h1.1 h1.2.2.1 h1.2.2.2.2.2 h7.1.1 h5.1 c 0
    have g99 : ∀ i, i < n → wRw I (gS (vB I 56) (Lv I t)) (gT (vB I 56) (Lv I t)) n 99 i = sAl (vB I 56) (Lv I t) (nI i) 0 := fun i hi => by simp [wRw, hi, gS]
    rw [← xP_wB, wRw_w, wB_vB, h7.1.1.c hj] at cc
    have e1 : ∀ a k, ¬ (98 ≤ a ∧ a ≤ 106) → wRw I (gS (vB I 56) (Lv I t)) (gT (vB I 56) (Lv I t)) n a k = I a k := fun a k z => wRw_o (by omega) (by omega)
    generalize wRw I (gS (vB I 56) (Lv I t)) (gT (vB I 56) (Lv I t)) n = C0 at cc g99 e1
    generalize eC : xP C0 102 (sCho (C0 99) (cS.mk (sTB (vB I 56) n) (nI k) (sGain (C0 99) (sTB (vB I 56) n) (nI k)) (C0 102)) 12).p = C1 at cc
    have e0 : ∀ a k, ¬ (98 ≤ a ∧ a ≤ 106) → C1 a k = I a k := fun a k z => by rw [← eC, xP_o _ _ _ (by omega)]; exact e1 a k z
    obtain ⟨e', J2, rr, -⟩ := k_rpartner (E := E) (ex := ex) (I := C1) (V := vR I 0) (e := C1 347 52) (J := J1) h1.2.1 rfl h7.rv.1 (h5.2.1.of (fun a z1 z2 => funext fun k => (xu_ne (by omega)).trans (e0 a k (by omega)))) (Lv_7 I t) hk ((vv.th h7.1.1 _).mp c.2) 0
    obtain ⟨p, -, pp, p3⟩ := h6.2.2.2.2.1
    rw [h7.1.1.c hj, ← partner_e (g := C0 99) (pc := C0 102) vv h7.1.1 h7.1.2.2.2.1 h7.1.2.2.2.2.1 (h7.1.2.2.2.2.2.2.2.1.trans p3) pp (Lv I t) g99 hk hj ((h7.1.1.t hj).mp c.2)] at rr
    exact Cl.wy h e0 rfl (x_le (by omega) cc) (x_le (by omega) rr)
  · have cc := k_partner_n (E := E) (ex := ex) (I := I) (V := vB I 56) (J := J) (P := P) h1.2.1 h1.1 h1.2.2.1 h1.2.2.2.2.2 c 0
    rw [wB_vB] at cc
    have rr := k_rpartner_n (E := E) (ex := ex) (I := I) (V := vR I 0) (e := I 347 52) (J := J) h1.2.1 rfl h7.rv.1 (x := x) (s := y) (fun z => c ⟨⟨z.1.1, Int32.not_lt.mp z.1.2⟩, (vv.th h7.1.1 _).mpr z.2⟩) 0
    rw [preR hp, postR hp] at rr
    exact Cl.ro h (x_le (by omega) cc) (x_le (by omega) rr)
