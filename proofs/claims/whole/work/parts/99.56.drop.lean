/-! drop -/
theorem nI_lti {a b : Nat} (ha : a < 2 ^ 31) (hb : b < 2 ^ 31) : nI a < nI b ↔ a < b := by
  rw [Int32.lt_iff_toInt_lt, nIi ha, nIi hb]; omega
theorem sub_le {S q : Nat} (h : ∀ k, S.testBit k = true → q.testBit k = true) : S ≤ q := by
  have : S &&& q = S := Nat.eq_of_testBit_eq fun k => by
    rw [Nat.testBit_and]
    by_cases c : S.testBit k = true
    · rw [c, h k c]; rfl
    · have : S.testBit k = false := by simpa using c
      rw [this]; rfl
  rw [← this]; exact Nat.and_le_right
theorem drop_s {h9 B : Nat → Int32} {n q : Nat} {w T : Int32} {Wf : Int32 → Int32} (hn : n ≤ 12) (hq : q < 2 ^ n) (hs : ∀ S, S < 2 ^ n → (nI S &&& (T ^^^ (-1)) = 0 ↔ rAT h9 n S)) (hW : ∀ S, S < 2 ^ n → Wf (nI S) = B S) (h0 : ¬ B 0 < w) : ∀ c, c ≤ q → (sFc T Wf w c).2 = rDp h9 B n w (c + 1) ∧ ((rDp h9 B n w (c + 1) = -2 ∧ (sFc T Wf w c).1 = 13) ∨ ∃ b, b < 2 ^ n ∧ rDp h9 B n w (c + 1) = nI b ∧ (sFc T Wf w c).1 = nI (pcT b 12))
  | 0, _ => by
    have : rDp h9 B n w 1 = -2 := by
      rw [rDp, rDs_f (fun z => h0 z.2.2)]; rfl
    rw [this]
    exact ⟨rfl, Or.inl ⟨rfl, rfl⟩⟩
  | c + 1, hc => by
    obtain ⟨i1, i2⟩ := drop_s hn hq hs hW h0 c (by omega)
    have p12 : (2 : Nat) ^ n ≤ 2 ^ 12 := Nat.pow_le_pow_right (by omega) hn
    have cS : c + 1 < 2 ^ n := by omega
    have c12 : c + 1 < 2 ^ 12 := by omega
    have pl := pcT_le (c + 1) 12
    have ek : (nI (c + 1) &&& (T ^^^ (-1)) = 0 ∧ bC (nI (c + 1)) < (sFc T Wf w c).1 ∧ Wf (nI (c + 1)) < w) ↔ (rAT h9 n (c + 1) ∧ (rDp h9 B n w (c + 1) < 0 ∨ rMo (nI (c + 1)) 12 < rMo (rDp h9 B n w (c + 1)) 12) ∧ B (c + 1) < w) := by
      rw [hs (c + 1) cS, hW (c + 1) cS, bC_pc c12]
      rcases i2 with ⟨z1, z2⟩ | ⟨b, z0, z1, z2⟩
      · rw [z1, z2]
        have l1 : nI (pcT (c + 1) 12) < 13 := (nI_lti (b := 13) (by omega) (by omega)).mpr (by omega)
        exact ⟨fun y => ⟨y.1, Or.inl (by decide), y.2.2⟩, fun y => ⟨y.1, l1, y.2.2⟩⟩
      · rw [z1, z2, rMo_pc c12 12 (by omega), rMo_pc (by omega) 12 (by omega)]
        exact ⟨fun y => ⟨y.1, Or.inr y.2.1, y.2.2⟩, fun y => ⟨y.1, y.2.1.resolve_left (nI_n0 (by omega)), y.2.2⟩⟩
    rw [rDp]
    by_cases d : nI (c + 1) &&& (T ^^^ (-1)) = 0 ∧ bC (nI (c + 1)) < (sFc T Wf w c).1 ∧ Wf (nI (c + 1)) < w
    · rw [sFc_t d, rDs_t (ek.mp d)]
      exact ⟨rfl, Or.inr ⟨c + 1, cS, rfl, bC_pc c12⟩⟩
    · rw [sFc_f d, rDs_f (fun z => d (ek.mpr z))]
      exact ⟨i1, i2⟩
theorem drop_t {h9 B : Nat → Int32} {n q : Nat} {w : Int32} (hg : ∀ S, q < S → S < 2 ^ n → ¬ rAT h9 n S) : ∀ i, q + 1 + i ≤ 2 ^ n → rDp h9 B n w (q + 1 + i) = rDp h9 B n w (q + 1)
  | 0, _ => rfl
  | i + 1, hi => by
    rw [← Nat.add_assoc, rDp, rDs_f (fun z => hg (q + 1 + i) (by omega) (by omega) z.1)]
    exact drop_t hg i (by omega)
theorem drop_0 {h9 B : Nat → Int32} {n : Nat} {w : Int32} (hn : n ≤ 12) (h0 : B 0 < w) : ∀ i, i + 1 ≤ 2 ^ n → rDp h9 B n w (i + 1) = 0
  | 0, _ => by
    rw [rDp, rDs_t ⟨fun j _ z => absurd z (by simp), Or.inl (by show (-2 : Int32) < 0; decide), h0⟩]; rfl
  | i + 1, hi => by
    have p12 : (2 : Nat) ^ n ≤ 2 ^ 12 := Nat.pow_le_pow_right (by omega) hn
    have ih := drop_0 (h9 := h9) (B := B) hn h0 i (by omega)
    rw [rDp, ih, rDs_f]
    rintro ⟨-, z | z, -⟩
    · exact absurd z (by decide)
    · have e0 : rMo 0 12 = nI (pcT 0 12) := rMo_pc (S := 0) (by omega) 12 (by omega)
      rw [rMo_pc (by omega) 12 (by omega), e0, nI_lti (by have := pcT_le (i + 1) 12; omega) (by have := pcT_le 0 12; omega)] at z
      have : pcT 0 12 = 0 := by decide
      omega
theorem drop_2 {h9 B : Nat → Int32} {n : Nat} {w : Int32} (hB : ∀ S, S < 2 ^ n → ¬ B S < w) : ∀ i, i ≤ 2 ^ n → rDp h9 B n w i = -2
  | 0, _ => rfl
  | i + 1, hi => by
    rw [rDp, rDs_f (fun z => hB i (by omega) z.2.2)]
    exact drop_2 hB i (by omega)
/-- what the Weights leave, and a trial of the reference -/
theorem Cl.wt {E : xCl} {ex : Bool} {t np q n m s kb u sn N : Nat} {I C1 C2 W2 : Nat → Nat → Int32} {J J1 J2 : Nat → Nat → Int64} {P : Nat → Nat → Nat} {yC yR : MethodName} {vC vR' : List Value} {r : Value} (h : Rel t np q n m s kb u sn I P) (e1 : ∀ a k, ¬ ((80 ≤ a ∧ a ≤ 91) ∨ (a = 347 ∧ (k = 2 ∨ k = 52 ∨ k = 69 ∨ k = 70 ∨ k = 71)) ∨ (98 ≤ a ∧ a ≤ 106) ∨ (391 ≤ a ∧ a ≤ 394) ∨ (396 ≤ a ∧ a ≤ 399)) → C2 a k = I a k) (hc : xEx E ex N yC vC (SH, I, J, P) (some r) (SH, C1, J1, P)) (hr : xEx E ex N yR vR' (SH, C1, J1, P) (some r) (SH, wR C2 1 W2, J2, P)) (hf : FX (vR I 0) W2) : ∃ r I1 J1 P1 I2 J2, xEx E ex N yC vC (SH, I, J, P) (some r) (SH, I1, J1, P1) ∧ xEx E ex N yR vR' (SH, I1, J1, P1) (some r) (SH, I2, J2, P1) ∧ RX I2 P1 :=
  ⟨r, _, J1, _, _, J2, hc, hr, t, np, q, n, m, s, kb, u, sn, h.g (ag_t e1 hf) (Ap.rf P) (pt_t (h.2.2.2.2.2.2.1.2.2.2.2.2.c (fun k => e1 387 k (by omega))))⟩
theorem wRw_o {I : Nat → Nat → Int32} {g h : Nat → Int32} {j a k : Nat} (h1 : a ≠ 99) (h2 : a ≠ 100) : wRw I g h j a k = I a k := by simp [wRw, h1, h2]
theorem wRw_w (I : Nat → Nat → Int32) (g h : Nat → Int32) (j : Nat) : wB (wRw I g h j) 56 (vB I 56) = wRw I g h j := by
  have := wB_vB (wRw I g h j) 56
  rwa [show vB (wRw I g h j) 56 = vB I 56 from vB_c (fun a k z1 z2 => wRw_o (by omega) (by omega))] at this
theorem drop_Cl {E : xCl} {ex : Bool} (w : Int32) : Cl E ex yX10_drop [.ref 0, .int w] yX11_drop [.ref 347, .int w] := by
  intro I J P hX N hN
  obtain ⟨t, np, q, n, m, s, kb, u, sn, h⟩ := hX
  have h1 := h.1
  have h5 := h.2.2.2.2.1
  have h6 := h.2.2.2.2.2.1
  have h7 := h.2.2.2.2.2.2.1
  have hp := h7.2.2.2.2.2
  have vv := h7.2.1
  have n12 := h7.1.1.1
  by_cases c : okL w
  · obtain ⟨q0, hT, hq⟩ := sTB_nI (vB I 56) n (by omega)
    have p12 : (2 : Nat) ^ n ≤ 2 ^ 12 := Nat.pow_le_pow_right (by omega) n12
    obtain ⟨J1, cc, -⟩ := k_drop (E := E) (ex := ex) (I := I) (V := vB I 56) (J := J) h1.2.1 h1.1 h1.2.2.1 h1.2.2.2.2.2 h7.1.1 h5.1 (by omega) hT c 0
    rw [wRw_w, wB_vB] at cc
    generalize eC : wRw I (gS (vB I 56) (Lv I t)) (gT (vB I 56) (Lv I t)) n = C1 at cc
    have e0 : ∀ a k, a ≠ 99 → a ≠ 100 → C1 a k = I a k := fun a k z1 z2 => by rw [← eC]; exact wRw_o z1 z2
    have i0 : ∀ a k, a ≠ 99 → a ≠ 100 → ¬ (a = 347 ∧ k = 2) → xu C1 347 2 0 a k = I a k := fun a k z1 z2 z3 => (xu_ne z3).trans (e0 a k z1 z2)
    have ev : vR (xu C1 347 2 0) 0 = vR I 0 := vR_c (fun a k z1 z2 => i0 a k (by omega) (by omega) (by omega))
    obtain ⟨I1, e', J2, W2, hI1, rr, -, hf⟩ := k_rdrop (E := E) (ex := ex) (I := C1) (e := C1 347 52) (J := J1) h1.2.1 rfl (hp.c (fun k => i0 387 k (by omega) (by omega) (by omega))) (by rw [ev]; exact h7.rv.1) (by rw [ev]; exact h7.rv.2) (h5.2.1.of (fun a z1 z2 => funext fun k => i0 a k (by omega) (by omega) (by omega))) (Lv_7 I t) (w := w) ⟨c.1, Int32.not_lt.mpr c.2⟩ 0
    have e385 : xu C1 347 2 0 385 = I 385 := funext fun k => i0 385 k (by omega) (by omega) (by omega)
    have eB : (fun S => sBr (cV (vR I 0) S n) (Lv I t) n) = (fun S => sBr (cV (vB I 56) S n) (Lv I t) n) := funext fun S => ((vv.cv S n).br (h7.1.1.cut S n) (h7.1.2.2.2.1.cv S n) (LL.rf (Lv I t)) n (Nat.le_refl _)).symm
    rw [wE_id, ev, e385, eB] at rr
    rw [ev] at hf
    have at' : ∀ S, S < 2 ^ n → (nI S &&& (sTB (vB I 56) n ^^^ (-1)) = 0 ↔ rAT (I 385) n S) := fun S hS => by
      rw [sub_at n12 hS]
      have e9 : ∀ j, j < n → vB I 56 9 j = I 385 j := fun j hj => by
        have := (vv.2.1 j hj).2.2.2.2.2.2.1
        rw [this]
        show I 385 (12 * 0 + j) = _
        rw [Nat.mul_zero, Nat.zero_add]
      exact ⟨fun z j hj y => by rw [← e9 j hj]; exact z j hj y, fun z j hj y => by rw [e9 j hj]; exact z j hj y⟩
    have hW : ∀ S, S < 2 ^ n → sWw (vB I 56) (Lv I t) n (nI S) = (fun S => sBr (cV (vB I 56) S n) (Lv I t) n) S := fun S hS => sWw_c h7.1.1 h7.1.2.2.1 (Lv I t) (by omega)
    have pos : 0 < 2 ^ n := Nat.two_pow_pos n
    have w0 : sWw (vB I 56) (Lv I t) n 0 = (fun S => sBr (cV (vB I 56) S n) (Lv I t) n) 0 := hW 0 pos
    have ans : (if sWw (vB I 56) (Lv I t) n 0 < w then 0 else if vB I 56 14 0 < w then (sFc (nI q0) (sWw (vB I 56) (Lv I t) n) w q0).2 else -2) = rDp (I 385) (fun S => sBr (cV (vB I 56) S n) (Lv I t) n) n w (2 ^ n) := by
      rw [w0]
      generalize eBB : (fun S => sBr (cV (vB I 56) S n) (Lv I t) n) = B at hW
      by_cases c1 : B 0 < w
      · rw [if_pos c1]
        obtain ⟨k, hk⟩ : ∃ k, 2 ^ n = k + 1 := ⟨2 ^ n - 1, by omega⟩
        rw [hk]; exact (drop_0 n12 c1 k (by omega)).symm
      · rw [if_neg c1]
        by_cases c2 : vB I 56 14 0 < w
        · rw [if_pos c2]
          have := drop_s (h9 := I 385) (B := B) (w := w) (T := sTB (vB I 56) n) n12 hq at' hW c1 q0 (Nat.le_refl _)
          rw [hT] at this
          rw [this.1]
          have t2 := drop_t (h9 := I 385) (B := B) (n := n) (q := q0) (w := w) (fun S z1 z2 z3 => by
            have := (sub_iff _ _).mp ((at' S z2).mpr z3)
            have hb : ∀ (x k : Nat), x < 2 ^ 12 → k < 31 → (dB (nI x) k ↔ x.testBit k = true) := fun x k hx hk => bz_1 (by omega) hk
            have le := sub_le (S := S) (q := q0) (fun k hk => by
              have hk12 : k < 12 := Classical.byContradiction fun z => by
                rw [Nat.testBit_lt_two_pow (Nat.lt_of_lt_of_le (show S < 2 ^ 12 by omega) (Nat.pow_le_pow_right (by omega) (by omega)))] at hk
                exact absurd hk (by decide)
              have := this k (by omega) ((hb S k (by omega) (by omega)).mpr hk)
              rw [hT] at this
              exact (hb q0 k (by omega) (by omega)).mp this)
            omega) (2 ^ n - (q0 + 1)) (by omega)
          rw [show q0 + 1 + (2 ^ n - (q0 + 1)) = 2 ^ n by omega] at t2
          exact t2.symm
        · rw [if_neg c2]
          refine (drop_2 (fun S hS y => ?_) (2 ^ n) (Nat.le_refl _)).symm
          have pq := h7.1.2.2.2.2.2.2.2.1
          obtain ⟨p, -, pp, p3⟩ := h6.2.2.2.2.1
          rw [p3] at pq
          obtain ⟨b, b1, b2, b3⟩ := in0.brp (h7.1.1.cut S n) (Vw.cv h7.1.2.2.2.2.1 S n) (((cV_v (vB I 56) S n).1 14 0 (by decide)).trans pq) (Lv I t) n (Nat.le_refl _)
          rw [← eBB] at y
          have y' : sBr (cV (vB I 56) S n) (Lv I t) n < w := y
          rw [b3] at y'
          have y1 := Int32.lt_iff_toInt_lt.mp y'
          have y2 : ¬ (nI p).toInt < w.toInt := fun z => c2 (by rw [pq]; exact Int32.lt_iff_toInt_lt.mpr z)
          rw [nIi (by omega)] at y1 y2
          omega
    rw [← ans] at rr
    refine Cl.wt h (fun a k z => ?_) (x_le (by omega) cc) (x_le (by omega) rr) hf
    unfold wE
    rw [xu_ne (by omega)]
    rcases hI1 with rfl | rfl
    · exact i0 a k (by omega) (by omega) (by omega)
    · unfold rPl
      rw [xu_ne (by omega), xu_ne (by omega), xu_ne (by omega)]; exact i0 a k (by omega) (by omega) (by omega)
  · have cc := k_drop_n (E := E) (ex := ex) (I := I) (V := vB I 56) (J := J) (P := P) c 0
    rw [wB_vB] at cc
    have rr := k_rdrop_n (E := E) (ex := ex) (I := I) (e := I 347 52) (J := J) h1.2.1 rfl (w := w) (fun z => c ⟨z.1, Int32.not_lt.mp z.2⟩) 0
    rw [wE_id] at rr
    exact Cl.ro h (x_le (by omega) cc) (x_le (by omega) rr)
