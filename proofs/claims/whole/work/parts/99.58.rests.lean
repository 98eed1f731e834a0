/-! rests and rest, answered alike -/
theorem rest_e {t np q n m : Nat} {I I0 : Nat → Nat → Int32} (h3 : zE t np I) (h7 : zN np q n m I) (e : ∀ a k, (a = 353 ∨ (376 ≤ a ∧ a ≤ 390)) → I0 a k = I a k) (L : Nat → (Nat → Int64) → Int64) {g : Nat} (hg : g < 4) (w : Int32) : gEs I0 L n w g = sGn (vB I 56) (I (t + 2)) (sWw (vB I 56) L n) n 0 (nI g) w ∧ gWs I0 L n w g = sGn (vB I 56) (I (t + 2)) (sWw (vB I 56) L n) n 1 (nI g) w := by
  have vv := h7.2.1
  have bd := h7.1.2.2.2.1
  have np6 := h3.1
  have z0 : ∀ k, 12 * 0 + k = k := fun k => by omega
  have side : ∀ j, j < n → I (t + 2) (vB I 56 3 j).toNatClampNeg = I 353 (vB I 56 3 j).toNatClampNeg ∧ (I (t + 2) (vB I 56 3 j).toNatClampNeg = 0 ∨ I (t + 2) (vB I 56 3 j).toNatClampNeg = 1) := fun j hj => by
    have z := h3.2.2.2 _ (vlt (bd j hj).1)
    exact ⟨z.2.1, z.2.2.1⟩
  have ag : ∀ j, j < n → vB I 56 9 j = I0 385 j ∧ I (t + 2) (vB I 56 3 j).toNatClampNeg = rSd I0 j ∧ vB I 56 5 j = I0 383 j := fun j hj => by
    have w := vv.2.1 j hj
    refine ⟨?_, ?_, ?_⟩
    · rw [w.2.2.2.2.2.2.1, e 385 j (by omega)]
      show I 385 (12 * 0 + j) = _
      rw [z0]
    · unfold rSd
      rw [e 379 j (by omega), e 353 _ (by omega), (side j hj).1, w.1]; rfl
    · rw [w.2.2.1, e 383 j (by omega)]
      show I 383 (12 * 0 + j) = _
      rw [z0]
  obtain ⟨a1, a2⟩ := sGn_s h7.1.1 h7.1.2.2.1 (fun j hj => (side j hj).2) L hg w
  obtain ⟨b1, b2⟩ := gA_c (h9 := vB I 56 9) (sd := fun k => I (t + 2) (vB I 56 3 k).toNatClampNeg) (ow := vB I 56 5) (h9' := I0 385) (sd' := rSd I0) (ow' := I0 383) g (n := n) ag n (Nat.le_refl _)
  have ev : vR I0 0 = vR I 0 := vR_c (fun a k z1 z2 => e a k (by omega))
  have c := (vv.gv (h9 := vB I 56 9) (sd := fun k => I (t + 2) (vB I 56 3 k).toNatClampNeg) (h9' := I0 385) (sd' := rSd I0) g (N := n) (fun j hj => ⟨(ag j hj).1, (ag j hj).2.1⟩) n (Nat.le_refl _)).br (h7.1.1.gv _ _ g n) (bd.gv _ _ g n) (LL.rf L) n (Nat.le_refl _)
  unfold gEs gWs gM
  rw [a1, a2, b1, b2, ev, c]
  exact ⟨rfl, rfl⟩
theorem sRb_d (Gn : Int32 → Int32 → Int32) : ∀ c, c ≤ 32 → ∀ e, e < 32 → (dB (sRb Gn c) e ↔ e < c ∧ (¬ Gn 0 (nI e) < Gn 0 (nI e ^^^ 2) ∧ ¬ Gn 1 (nI e) < Gn 1 (nI e ^^^ 1)))
  | 0, _, e, he => ⟨fun z => absurd z (dB_zero he), fun z => absurd z.1 (by omega)⟩
  | c + 1, hc, e, he => by
    have ih := sRb_d Gn c (by omega) e he
    rw [sRb]
    by_cases d : ¬ Gn 0 (nI c) < Gn 0 (nI c ^^^ 2) ∧ ¬ Gn 1 (nI c) < Gn 1 (nI c ^^^ 1)
    · rw [if_pos d, dB_or _ (by omega) he, ih]
      constructor
      · rintro (z | z)
        · exact ⟨by omega, z.2⟩
        · subst z; exact ⟨by omega, d⟩
      · intro z
        by_cases x : e = c
        · exact Or.inr x
        · exact Or.inl ⟨by omega, z.2⟩
    · rw [if_neg d, ih]
      constructor
      · intro z; exact ⟨by omega, z.2⟩
      · intro z
        refine ⟨?_, z.2⟩
        by_cases x : e = c
        · subst x; exact absurd z.2 d
        · omega
theorem sRs_r {b k : Int32} {A B : Nat → Int32} (h : ∀ e, e < 4 → (dB b e ↔ rRc A B e)) (hk : ¬ k < 0) : ∀ c e p, e + c = 4 → sRs b k c e p = rRa A B k c e p
  | 0, e, p, _ => by rw [sRs, rRa, if_pos (Int32.not_lt.mp hk)]
  | c + 1, e, p, he => by
    have z := h e (by omega)
    rw [sRs, rRa, sRs_r h hk c (e + 1) (p + 1) (by omega), sRs_r h hk c (e + 1) p (by omega), Int32.mul_comm (nI e / 2) 10]
    by_cases c1 : rRc A B e
    · rw [if_pos (z.mpr c1), if_pos c1]
    · rw [if_neg (fun y => c1 (z.mp y)), if_neg c1]
def sRq (R : Nat → Bool) : Nat → Int32
  | 0 => 0
  | e + 1 => if R e = true then sRq R e ||| (1 <<< (nI e &&& 31)) else sRq R e
def rRq (R : Nat → Bool) : Nat → Nat → Int32 → Int32
  | 0, _, k => k
  | c + 1, g, k => if R g = true then rRq R c (g + 1) (k + 1) else rRq R c (g + 1) k
def r4 (b0 b1 b2 b3 : Bool) : Nat → Bool := fun e => if e = 0 then b0 else if e = 1 then b1 else if e = 2 then b2 else b3
theorem rq_4 : ∀ b0 b1 b2 b3 : Bool, bC (sRq (r4 b0 b1 b2 b3) 4) = rRq (r4 b0 b1 b2 b3) 4 0 0 := by decide +kernel
theorem sRb_q {Gn : Int32 → Int32 → Int32} {R : Nat → Bool} (h : ∀ e, e < 4 → (R e = true ↔ (¬ Gn 0 (nI e) < Gn 0 (nI e ^^^ 2) ∧ ¬ Gn 1 (nI e) < Gn 1 (nI e ^^^ 1)))) : ∀ c, c ≤ 4 → sRb Gn c = sRq R c
  | 0, _ => rfl
  | c + 1, hc => by
    have z := h c (by omega)
    rw [sRb, sRq, sRb_q h c (by omega)]
    by_cases d : ¬ Gn 0 (nI c) < Gn 0 (nI c ^^^ 2) ∧ ¬ Gn 1 (nI c) < Gn 1 (nI c ^^^ 1)
    · rw [if_pos d, if_pos (z.mpr d)]
    · rw [if_neg d, if_neg (fun y => d (z.mp y))]
theorem rRa_q {A B : Nat → Int32} {R : Nat → Bool} (h : ∀ e, e < 4 → (R e = true ↔ rRc A B e)) : ∀ c g i, g + c = 4 → i ≤ g → rRa A B (-1) c g (nI i) = rRq R c g (nI i)
  | 0, g, i, _, _ => by rw [rRa, rRq, if_neg (by decide)]
  | c + 1, g, i, hg, hi => by
    have z := h g (by omega)
    have e1 : nI i + 1 = nI (i + 1) := nI_add i 1
    rw [rRa, rRq, e1, rRa_q h c (g + 1) (i + 1) (by omega) (by omega), rRa_q h c (g + 1) i (by omega) (by omega), if_neg (nI_nm1 (q := i) (by omega))]
    by_cases d : rRc A B g
    · rw [if_pos d, if_pos (z.mpr d)]
    · rw [if_neg d, if_neg (fun y => d (z.mp y))]
theorem rests_q {Gn : Int32 → Int32 → Int32} {A B : Nat → Int32} (h : ∀ e, e < 4 → ((¬ Gn 0 (nI e) < Gn 0 (nI e ^^^ 2) ∧ ¬ Gn 1 (nI e) < Gn 1 (nI e ^^^ 1)) ↔ rRc A B e)) : bC (sRb Gn 4) = rRa A B (-1) 4 0 0 := by
  have hr : ∀ e, e < 4 → (r4 (decide (rRc A B 0)) (decide (rRc A B 1)) (decide (rRc A B 2)) (decide (rRc A B 3)) e = true ↔ rRc A B e) := fun e he => by
    unfold r4
    rcases (show e = 0 ∨ e = 1 ∨ e = 2 ∨ e = 3 by omega) with rfl | rfl | rfl | rfl
    · rw [if_pos rfl]; exact decide_eq_true_iff
    · rw [if_neg (by decide), if_pos rfl]; exact decide_eq_true_iff
    · rw [if_neg (by decide), if_neg (by decide), if_pos rfl]; exact decide_eq_true_iff
    · rw [if_neg (by decide), if_neg (by decide), if_neg (by decide)]; exact decide_eq_true_iff
  rw [sRb_q (fun e he => (hr e he).trans (h e he).symm) 4 (by omega), show (0 : Int32) = nI 0 from rfl, rRa_q hr 4 0 0 (by omega) (by omega)]
  exact rq_4 _ _ _ _
theorem x4 {g : Nat} (h : g < 4) : nI g ^^^ 2 = nI ((g + 2) % 4) ∧ nI g ^^^ 1 = nI (if g % 2 = 0 then g + 1 else g - 1) := by
  have key : ∀ g : Fin 4, nI g.val ^^^ 2 = nI ((g.val + 2) % 4) ∧ nI g.val ^^^ 1 = nI (if g.val % 2 = 0 then g.val + 1 else g.val - 1) := by decide
  exact key ⟨g, h⟩
theorem rest_c {Gn : Int32 → Int32 → Int32} {A B : Nat → Int32} (h : ∀ g, g < 4 → A g = Gn 0 (nI g) ∧ B g = Gn 1 (nI g)) {e : Nat} (he : e < 4) : (¬ Gn 0 (nI e) < Gn 0 (nI e ^^^ 2) ∧ ¬ Gn 1 (nI e) < Gn 1 (nI e ^^^ 1)) ↔ rRc A B e := by
  unfold rRc
  rw [(x4 he).1, (x4 he).2, (h e he).1, (h e he).2, (h ((e + 2) % 4) (by omega)).1, (h (if e % 2 = 0 then e + 1 else e - 1) (by split <;> omega)).2]
theorem rests_Cl {E : xCl} {ex : Bool} (w : Int32) : Cl E ex yX10_rests [.ref 0, .int w] yX11_rests [.ref 347, .int w] := by
  intro I J P hX N hN
  obtain ⟨t, np, q, n, m, s, kb, u, sn, h⟩ := hX
  have h1 := h.1
  have h3 := h.2.2.1
  have h5 := h.2.2.2.2.1
  have h7 := h.2.2.2.2.2.2.1
  have hp := h7.2.2.2.2.2
  by_cases c : okU w
  · obtain ⟨J1, cc, -⟩ := k_rests (E := E) (ex := ex) (I := I) (V := vB I 56) (J := J) h1.2.1 h1.1 h1.2.2.1 h1.2.2.2.2.2 h7.1.1 h5.1 c 0
    rw [wRw_w, wB_vB] at cc
    generalize eC : wRw I (gS (vB I 56) (Lv I t)) (gT (vB I 56) (Lv I t)) n = C1 at cc
    have e0 : ∀ a k, a ≠ 99 → a ≠ 100 → C1 a k = I a k := fun a k z1 z2 => by rw [← eC]; exact wRw_o z1 z2
    have i0 : ∀ a k, a ≠ 99 → a ≠ 100 → ¬ (a = 347 ∧ k = 2) → xu C1 347 2 0 a k = I a k := fun a k z1 z2 z3 => (xu_ne z3).trans (e0 a k z1 z2)
    have ev : vR (xu C1 347 2 0) 0 = vR I 0 := vR_c (fun a k z1 z2 => i0 a k (by omega) (by omega) (by omega))
    obtain ⟨I1, e', J2, W2, hI1, rr, -, hf⟩ := k_rrests (E := E) (ex := ex) (I := C1) (e := C1 347 52) (J := J1) h1.2.1 rfl (hp.c (fun k => i0 387 k (by omega) (by omega) (by omega))) (by rw [ev]; exact h7.rv.1) (by rw [ev]; exact h7.rv.2) (fun k => by rw [i0 379 k (by omega) (by omega) (by omega)]; exact h7.2.2.1 k) (h5.2.1.of (fun a z1 z2 => funext fun k => i0 a k (by omega) (by omega) (by omega))) (Lv_7 I t) (w := w) ⟨c.1, Int32.not_lt.mpr c.2⟩ 0
    have hG : ∀ g, g < 4 → gEs (xu C1 347 2 0) (Lv I t) n w g = sGn (vB I 56) (I (t + 2)) (sWw (vB I 56) (Lv I t) n) n 0 (nI g) w ∧ gWs (xu C1 347 2 0) (Lv I t) n w g = sGn (vB I 56) (I (t + 2)) (sWw (vB I 56) (Lv I t) n) n 1 (nI g) w := fun g hg => rest_e h3 h7 (fun a k z => i0 a k (by omega) (by omega) (by omega)) (Lv I t) hg w
    generalize gEs (xu C1 347 2 0) (Lv I t) n w = A at hG rr hI1
    generalize gWs (xu C1 347 2 0) (Lv I t) n w = B at hG rr hI1
    generalize eG : (fun (s u : Int32) => sGn (vB I 56) (I (t + 2)) (sWw (vB I 56) (Lv I t) n) n s u w) = Gn at cc
    have hG' : ∀ g, g < 4 → A g = Gn 0 (nI g) ∧ B g = Gn 1 (nI g) := by rw [← eG]; exact hG
    rw [wE_id, ← rests_q (fun e he => rest_c hG' he)] at rr
    rw [ev] at hf
    refine Cl.wt h (fun a k z => ?_) (x_le (by omega) cc) (x_le (by omega) rr) hf
    unfold wE
    rw [xu_ne (by omega)]
    rcases hI1 with rfl | rfl
    · rw [wH_o _ _ _ (by omega) (by omega)]; exact i0 a k (by omega) (by omega) (by omega)
    · unfold rPl
      rw [xu_ne (by omega), xu_ne (by omega), xu_ne (by omega), wH_o _ _ _ (by omega) (by omega)]; exact i0 a k (by omega) (by omega) (by omega)
  · have cc := k_rests_n (E := E) (ex := ex) (I := I) (V := vB I 56) (J := J) (P := P) c 0
    rw [wB_vB] at cc
    have rr := k_rrests_n (E := E) (ex := ex) (I := I) (e := I 347 52) (J := J) h1.2.1 rfl (w := w) (fun z => c ⟨z.1, Int32.not_lt.mp z.2⟩) 0
    rw [wE_id] at rr
    exact Cl.ro h (x_le (by omega) cc) (x_le (by omega) rr)
theorem rest_Cl {E : xCl} {ex : Bool} (w x : Int32) : Cl E ex yX10_rest [.ref 0, .int w, .int x] yX11_rest [.ref 347, .int w, .int x] := by
  intro I J P hX N hN
  obtain ⟨t, np, q, n, m, s, kb, u, sn, h⟩ := hX
  have h1 := h.1
  have h3 := h.2.2.1
  have h5 := h.2.2.2.2.1
  have h7 := h.2.2.2.2.2.2.1
  have hp := h7.2.2.2.2.2
  by_cases c : okU w ∧ ¬ x < 0
  · obtain ⟨J1, cc, -⟩ := k_rest (E := E) (ex := ex) (I := I) (V := vB I 56) (J := J) h1.2.1 h1.1 h1.2.2.1 h1.2.2.2.2.2 h7.1.1 h5.1 c 0
    rw [wRw_w, wB_vB] at cc
    generalize eC : wRw I (gS (vB I 56) (Lv I t)) (gT (vB I 56) (Lv I t)) n = C1 at cc
    have e0 : ∀ a k, a ≠ 99 → a ≠ 100 → C1 a k = I a k := fun a k z1 z2 => by rw [← eC]; exact wRw_o z1 z2
    have i0 : ∀ a k, a ≠ 99 → a ≠ 100 → ¬ (a = 347 ∧ k = 2) → xu C1 347 2 0 a k = I a k := fun a k z1 z2 z3 => (xu_ne z3).trans (e0 a k z1 z2)
    have ev : vR (xu C1 347 2 0) 0 = vR I 0 := vR_c (fun a k z1 z2 => i0 a k (by omega) (by omega) (by omega))
    obtain ⟨I1, e', J2, W2, hI1, rr, -, hf⟩ := k_rrest (E := E) (ex := ex) (I := C1) (e := C1 347 52) (J := J1) h1.2.1 rfl (hp.c (fun k => i0 387 k (by omega) (by omega) (by omega))) (by rw [ev]; exact h7.rv.1) (by rw [ev]; exact h7.rv.2) (fun k => by rw [i0 379 k (by omega) (by omega) (by omega)]; exact h7.2.2.1 k) (h5.2.1.of (fun a z1 z2 => funext fun k => i0 a k (by omega) (by omega) (by omega))) (Lv_7 I t) (w := w) ⟨c.1.1, Int32.not_lt.mpr c.1.2⟩ (k := x) c.2 0
    have hG : ∀ g, g < 4 → gEs (xu C1 347 2 0) (Lv I t) n w g = sGn (vB I 56) (I (t + 2)) (sWw (vB I 56) (Lv I t) n) n 0 (nI g) w ∧ gWs (xu C1 347 2 0) (Lv I t) n w g = sGn (vB I 56) (I (t + 2)) (sWw (vB I 56) (Lv I t) n) n 1 (nI g) w := fun g hg => rest_e h3 h7 (fun a k z => i0 a k (by omega) (by omega) (by omega)) (Lv I t) hg w
    generalize gEs (xu C1 347 2 0) (Lv I t) n w = A at hG rr hI1
    generalize gWs (xu C1 347 2 0) (Lv I t) n w = B at hG rr hI1
    generalize eG : (fun (s u : Int32) => sGn (vB I 56) (I (t + 2)) (sWw (vB I 56) (Lv I t) n) n s u w) = Gn at cc
    have hG' : ∀ g, g < 4 → A g = Gn 0 (nI g) ∧ B g = Gn 1 (nI g) := by rw [← eG]; exact hG
    rw [wE_id, ← sRs_r (b := sRb Gn 4) (A := A) (B := B) (fun e he => (sRb_d Gn 4 (by omega) e (by omega)).trans ((and_iff_right he).trans (rest_c hG' he))) c.2 4 0 0 rfl] at rr
    rw [ev] at hf
    refine Cl.wt h (fun a k z => ?_) (x_le (by omega) cc) (x_le (by omega) rr) hf
    unfold wE
    rw [xu_ne (by omega)]
    rcases hI1 with rfl | rfl
    · rw [wH_o _ _ _ (by omega) (by omega)]; exact i0 a k (by omega) (by omega) (by omega)
    · unfold rPl
      rw [xu_ne (by omega), xu_ne (by omega), xu_ne (by omega), wH_o _ _ _ (by omega) (by omega)]; exact i0 a k (by omega) (by omega) (by omega)
  · have cc := k_rest_n (E := E) (ex := ex) (I := I) (V := vB I 56) (J := J) (P := P) c 0
    rw [wB_vB] at cc
    have rr := k_rrest_n (E := E) (ex := ex) (I := I) (e := I 347 52) (J := J) h1.2.1 rfl (w := w) (k := x) (fun z => c ⟨⟨z.1.1, Int32.not_lt.mp z.1.2⟩, z.2⟩) 0
    rw [wE_id] at rr
    exact Cl.ro h (x_le (by omega) cc) (x_le (by omega) rr)
