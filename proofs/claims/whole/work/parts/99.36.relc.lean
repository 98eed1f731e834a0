/-! each part of it reads but its own cells -/
theorem vB_c {I I' : Nat → Nat → Int32} {b : Nat} (h : ∀ a k, b ≤ a → a ≤ b + 11 → I' a k = I a k) : vB I' b = vB I b := by
  funext f k
  simp only [vB]
  split
  · exact h _ _ (by omega) (by omega)
  · exact h _ _ (by omega) (by omega)
theorem zT.c {t : Nat} {I I' : Nat → Nat → Int32} (h : zT t I) (e : ∀ a k, ((a = 0 ∧ k ≤ 3) ∨ a = 1 ∨ a = 19 ∨ a = 20 ∨ a = 34 - t + 4 ∨ (a = 347 ∧ (k = 1 ∨ k = 4 ∨ k = 5)) ∨ a = 348 ∨ a = 349 ∨ a = 356 ∨ a = 357 ∨ a = 361 ∨ a = 363) → I' a k = I a k) : zT t I' := by
  obtain ⟨⟨nt, h1, h2, h3, h4⟩, h5, h6, h7, h8, h9⟩ := h
  refine ⟨⟨nt, h1, (e _ _ (by omega)).trans h2, (e _ _ (by omega)).trans h3, ?_⟩, ?_, fun k => ?_, fun k => ?_, ?_, ?_⟩
  · rw [show I' 1 = I 1 from funext fun k => e 1 k (by omega), show I' 348 = I 348 from funext fun k => e 348 k (by omega)]; exact h4
  · rw [show I' 349 = I 349 from funext fun k => e 349 k (by omega)]; exact h5
  · rw [e 19 k (by omega), e 20 k (by omega), e (34 - t + 4) k (by omega)]; exact h6 k
  · rw [e 356 k (by omega), e 357 k (by omega), e 361 k (by omega), e 363 k (by omega)]; exact h7 k
  · rw [e 0 2 (by omega), e 347 4 (by omega)]; exact h8
  · rw [e 0 3 (by omega), e 347 5 (by omega)]; exact h9
theorem zE.c {t np : Nat} {I I' : Nat → Nat → Int32} (h : zE t np I) (e : ∀ a k, ((a = t ∧ k = 3) ∨ (t + 1 ≤ a ∧ a ≤ t + 3) ∨ (a = 347 ∧ k = 12) ∨ ((a = 352 ∨ a = 353 ∨ a = 355) ∧ k < 6)) → I' a k = I a k) : zE t np I' := by
  obtain ⟨h1, h2, h3, h4⟩ := h
  refine ⟨h1, (e _ _ (by omega)).trans h2, (e _ _ (by omega)).trans h3, fun j hj => ?_⟩
  rw [e (t + 1) j (by omega), e (t + 2) j (by omega), e (t + 3) j (by omega), e 352 j (by omega), e 353 j (by omega), e 355 j (by omega)]
  exact h4 j hj
theorem zX.c {t np m : Nat} {I I' : Nat → Nat → Int32} (h : zX t np m I) (e : ∀ a k, ((a = t ∧ k = 7) ∨ (t + 4 ≤ a ∧ a ≤ t + 6) ∨ (a = 347 ∧ k = 14) ∨ ((363 ≤ a ∧ a ≤ 365) ∧ k < 8)) → I' a k = I a k) : zX t np m I' := by
  obtain ⟨h1, h2, h3, h4, h5⟩ := h
  refine ⟨h1, (e _ _ (by omega)).trans h2, (e _ _ (by omega)).trans h3, fun j hj => ?_, fun k => ?_⟩
  · rw [e (t + 4) j (by omega), e (t + 5) j (by omega), e (t + 6) j (by omega), e 363 j (by omega), e 364 j (by omega), e 365 j (by omega)]
    exact h4 j hj
  · rw [e (t + 4) k (by omega)]; exact h5 k
theorem Lv_c {t : Nat} {I I' : Nat → Nat → Int32} (e : ∀ a k, (t + 8 ≤ a ∧ a ≤ t + 10) → I' a k = I a k) : Lv I' t = Lv I t := by
  funext w N
  unfold Lv
  rw [e (t + 9) w (by omega), e (t + 10) w (by omega), show I' (t + 8) = I (t + 8) from funext fun k => e (t + 8) k (by omega)]
theorem LwOk_c {t w : Nat} {I I' : Nat → Nat → Int32} (h : LwOk I t w) (e : ∀ a k, (t + 8 ≤ a ∧ a ≤ t + 10) → I' a k = I a k) : LwOk I' t w := by
  rcases h with h | ⟨s, f, h1, h2, h3, h4⟩
  · exact Or.inl ((e _ _ (by omega)).trans h)
  · exact Or.inr ⟨s, f, (e _ _ (by omega)).trans h1, (e _ _ (by omega)).trans h2, h3, h4⟩
theorem rVl_c {kn pt ot kn' pt' ot' : Nat → Int32} {N g : Nat → Int64} {e : Int32} {i : Nat} (h1 : kn' i = kn i) (h2 : pt' i = pt i) (h3 : ot' i = ot i) : rVl kn' pt' ot' N g e i = rVl kn pt ot N g e i := by unfold rVl; rw [h1, h2, h3]
theorem rRn_c {kn pt ot kn' pt' ot' : Nat → Int32} {N : Nat → Int64} : ∀ c p e g, (∀ k, p ≤ k → k < p + c → kn' k = kn k ∧ pt' k = pt k ∧ ot' k = ot k) → rRn kn' pt' ot' N c p e g = rRn kn pt ot N c p e g
  | 0, _, _, _, _ => rfl
  | c + 1, p, e, g, h => by
    have h0 := h p (by omega) (by omega)
    rw [rRn, rRn, rVl_c h0.1 h0.2.1 h0.2.2, rRn_c c (p + 1) _ _ (fun k z1 z2 => h k (by omega) (by omega))]
theorem LwR1.o2 {I I' : Nat → Nat → Int32} {w : Nat} {L : (Nat → Int64) → Int64} (hl : LwR1 I w L) (hw : w < 3) (h : ∀ a k, (((366 ≤ a ∧ a ≤ 368) ∧ k < 3) ∨ ((369 ≤ a ∧ a ≤ 371) ∧ k < 64)) → I' a k = I a k) : LwR1 I' w L := by
  rcases hl with ⟨h1, h2⟩ | ⟨h1, s, f, h2, h3, h4, h5, h6, h7⟩
  · exact Or.inl ⟨(h _ _ (by omega)).trans h1, h2⟩
  · refine Or.inr ⟨(h _ _ (by omega)).trans h1, s, f, (h _ _ (by omega)).trans h2, (h _ _ (by omega)).trans h3, h4, h5, fun i z1 z2 => ?_, fun N g hN => ?_⟩
    · have := h6 i z1 z2
      unfold kOk at this ⊢
      rw [h 369 i (by omega), h 370 i (by omega), h 371 i (by omega)]
      exact this
    · rw [rRn_c (kn := I 369) (pt := I 370) (ot := I 371) _ _ _ _ (fun k z1 z2 => ⟨h 369 k (by omega), h 370 k (by omega), h 371 k (by omega)⟩)]
      exact h7 N g hN
theorem zL.c {t : Nat} {I I' : Nat → Nat → Int32} (h : zL t I) (e : ∀ a k, ((a = t + 7 ∧ k = 5) ∨ (t + 8 ≤ a ∧ a ≤ t + 10) ∨ (a = 347 ∧ k = 15) ∨ ((366 ≤ a ∧ a ≤ 368) ∧ k < 3) ∨ ((369 ≤ a ∧ a ≤ 371) ∧ k < 64)) → I' a k = I a k) : zL t I' := by
  obtain ⟨h1, h2, h3⟩ := h
  have e2 : ∀ a k, (((366 ≤ a ∧ a ≤ 368) ∧ k < 3) ∨ ((369 ≤ a ∧ a ≤ 371) ∧ k < 64)) → I' a k = I a k := fun a k z => e a k (by omega)
  refine ⟨⟨LwOk_c h1.1 (fun a k z => e a k (by omega)), LwOk_c h1.2.1 (fun a k z => e a k (by omega)), LwOk_c h1.2.2 (fun a k z => e a k (by omega))⟩, ?_, ?_⟩
  · rw [Lv_c (fun a k z => e a k (by omega))]
    exact ⟨h2.1.o2 (by omega) e2, h2.2.1.o2 (by omega) e2, h2.2.2.o2 (by omega) e2⟩
  · rw [e (t + 7) 5 (by omega), e 347 15 (by omega)]; exact h3
theorem zQ.c {t np q m : Nat} {I I' : Nat → Nat → Int32} (h : zQ t np q m I) (e : ∀ a k, ((a = t ∧ k = 9) ∨ (a = 347 ∧ k = 13) ∨ (44 ≤ a ∧ a ≤ 55) ∨ (a = 351 ∧ k < 2) ∨ ((a = 353 ∨ a = 354) ∧ k < 6) ∨ ((356 ≤ a ∧ a ≤ 362) ∧ k < 10)) → I' a k = I a k) (hnp : np ≤ 6) : zQ t np q m I' := by
  obtain ⟨h1, h2, h3, h4, h5, h6, h7, h8, h9, h10⟩ := h
  have eb : vB I' 44 = vB I 44 := vB_c (fun a k z1 z2 => e a k (by omega))
  refine ⟨h1, (e _ _ (by omega)).trans h2, (e _ _ (by omega)).trans h3, ?_, ?_, fun j hj => ?_, fun j hj => ?_, ?_, ?_, ?_⟩
  · rw [eb]; exact h4
  · rw [eb]; exact h5
  · rw [eb, e 354 j (by omega), e 353 j (by omega)]; exact h6 j hj
  · rw [eb, e 356 j (by omega), e 357 j (by omega), e 358 j (by omega), e 359 j (by omega), e 360 j (by omega), e 362 j (by omega)]; exact h7 j hj
  · rw [eb]; exact h8
  · rw [eb, e 351 0 (by omega)]; exact h9
  · rw [eb]; exact h10
theorem zS1.c {I I' : Nat → Nat → Int32} {j : Nat} (h : zS1 I j) (e : ∀ a k, (((94 ≤ a ∧ a ≤ 97) ∧ k = j) ∨ (a = 395 ∧ 4 * j ≤ k ∧ k ≤ 4 * j + 3)) → I' a k = I a k) : zS1 I' j := by
  unfold zS1
  rw [e 94 j (by omega), e 95 j (by omega), e 96 j (by omega), e 97 j (by omega), e 395 (4 * j) (by omega), e 395 (4 * j + 1) (by omega), e 395 (4 * j + 2) (by omega), e 395 (4 * j + 3) (by omega)]
  exact h
theorem zS.c {s kb : Nat} {I I' : Nat → Nat → Int32} (h : zS s kb I) (e : ∀ a k, ((93 ≤ a ∧ a ≤ 97) ∨ (a = 347 ∧ (k = 76 ∨ k = 77)) ∨ a = 395) → I' a k = I a k) : zS s kb I' := by
  obtain ⟨h1, h2, h3, h4, h5, h6⟩ := h
  refine ⟨h1, (e _ _ (by omega)).trans h2, (e _ _ (by omega)).trans h3, ?_, ?_, fun j hj => (h6 j hj).c (fun a k z => e a k (by omega))⟩
  · rw [e 93 5 (by omega), e 347 77 (by omega)]; exact h4
  · rw [e 93 5 (by omega)]; exact h5
theorem zI.c {t np q m : Nat} {I I' : Nat → Nat → Int32} {P P' : Nat → Nat → Nat} (h : zI t np q m I P) (e : ∀ a k, ((a = 0 ∧ k = 9) ∨ (a = 347 ∧ (k = 85 ∨ k = 89)) ∨ (68 ≤ a ∧ a ≤ 79) ∨ (44 ≤ a ∧ a ≤ 55) ∨ (401 ≤ a ∧ a ≤ 403)) → I' a k = I a k) (eP : P' 68 0 = P 68 0) : zI t np q m I' P' := by
  unfold zI
  rw [show vB I' 68 = vB I 68 from vB_c (fun a k z1 z2 => e a k (by omega)), show vB I' 44 = vB I 44 from vB_c (fun a k z1 z2 => e a k (by omega)), show I' 401 = I 401 from funext fun k => e 401 k (by omega), show I' 402 = I 402 from funext fun k => e 402 k (by omega), show I' 403 = I 403 from funext fun k => e 403 k (by omega), e 0 9 (by omega), e 347 85 (by omega), e 347 89 (by omega), eP]
  exact h
theorem zN.g {np q n m : Nat} {I I' : Nat → Nat → Int32} (hnp : np ≤ 6) (hm : m ≤ 8) (h : zN np q n m I) (g : Ag I I') (hp : Pt I') : zN np q n m I' := by
  obtain ⟨h1, h2, h3, h4, h5, h6⟩ := h
  have e56 : vB I' 56 = vB I 56 := g.b (by omega)
  have e44 : vB I' 44 = vB I 44 := g.b (by omega)
  refine ⟨by rw [e56, e44]; exact h1, ?_, fun k => ?_, fun k => ?_, fun k hk => ?_, hp⟩
  · rw [e56]
    exact h2.tr (g.r hnp h1.1.1 hm h6 hp)
  · rw [g 379 k (by omega)]; exact h3 k
  · rw [g 380 k (by omega)]; exact h4 k
  · rw [g 386 k (by omega), g 384 k (by omega)]; exact h5 k hk
theorem sv_i (sn u i : Nat) : 107 ≤ sv sn u i ∧ sv sn u i + 11 < 347 := by
  unfold sv
  have := Nat.mod_lt (sn + 20 - u + i) (show 0 < 20 by decide)
  omega
theorem zU.g {t np q n m u sn : Nat} {I I' : Nat → Nat → Int32} {P P' : Nat → Nat → Nat} (h : zU t np q n m u sn I P) (g : Ag I I') (gp : Ap P P') : zU t np q n m u sn I' P' := by
  obtain ⟨h1, h2, h3, h4, h5, N, h6, h7⟩ := h
  refine ⟨h1, h2, (g _ _ (by omega)).trans h3, (g _ _ (by omega)).trans h4, (g _ _ (by omega)).trans h5, N, fun i hi => ?_, h7⟩
  have z := sv_i sn u i
  obtain ⟨w1, Vs, w3, w2⟩ := h6 i hi
  refine ⟨(gp _ _ (by omega)).trans w1, Vs, by rw [g.b (b := sv sn u i) (by omega)]; exact w3, ?_⟩
  unfold eU
  rw [show vB I' 56 = vB I 56 from g.b (by omega), show vB I' 44 = vB I 44 from g.b (by omega), show I' 400 = I 400 from funext fun k => g 400 k (by omega)]
  exact w2
theorem p800 : ∀ q ∈ REFS, ¬ (q.1 = 80 ∧ q.2.1 = 0) := by decide +kernel
theorem Pok.ap {P P' : Nat → Nat → Nat} (h : Pok P) (g : Ap P P') : Pok P' := fun q hq => (g _ _ (p800 q hq)).trans (h q hq)
theorem zP.g {t : Nat} {P P' : Nat → Nat → Nat} (h : zP t P) (g : Ap P P') : zP t P' := ⟨h.1, h.2.1.ap g, (g _ _ (by omega)).trans h.2.2.1, (g _ _ (by omega)).trans h.2.2.2.1, (g _ _ (by omega)).trans h.2.2.2.2.1, (g _ _ (by omega)).trans h.2.2.2.2.2⟩
theorem Rel.g {t np q n m s kb u sn : Nat} {I I' : Nat → Nat → Int32} {P P' : Nat → Nat → Nat} (h : Rel t np q n m s kb u sn I P) (g : Ag I I') (gp : Ap P P') (hp : Pt I') : Rel t np q n m s kb u sn I' P' := by
  obtain ⟨h1, h2, h3, h4, h5, h6, h7, h8, h9, h10⟩ := h
  have ht := tl_c h1.1
  exact ⟨h1.g gp, h2.c (fun a k z => g a k (by omega)), h3.c (fun a k z => g a k (by omega)), h4.c (fun a k z => g a k (by omega)), h5.c (fun a k z => g a k (by omega)), h6.c (fun a k z => g a k (by omega)) h3.1, h7.g h3.1 h4.1 g hp, h8.c (fun a k z => g a k (by omega)), h9.g g gp, h10.c (fun a k z => g a k (by omega)) (gp _ _ (by omega))⟩
/-- now, and what is saved, by cells of their own -/
theorem zN.c {np q n m : Nat} {I I' : Nat → Nat → Int32} (h : zN np q n m I) (e : ∀ a k, ((44 ≤ a ∧ a ≤ 67) ∨ (376 ≤ a ∧ a ≤ 390)) → I' a k = I a k) : zN np q n m I' := by
  have e56 : vB I' 56 = vB I 56 := vB_c (fun a k z1 z2 => e a k (by omega))
  have e44 : vB I' 44 = vB I 44 := vB_c (fun a k z1 z2 => e a k (by omega))
  have eR : vR I' 0 = vR I 0 := by
    funext f k
    unfold vR
    rw [e 376 _ (by omega), e 377 _ (by omega), e 379 _ (by omega), e 380 _ (by omega), e 381 _ (by omega), e 382 _ (by omega), e 383 _ (by omega), e 384 _ (by omega), e 385 _ (by omega), e 386 _ (by omega), e 388 _ (by omega), e 378 _ (by omega), e 389 _ (by omega), e 390 _ (by omega), show (fun j => I' 387 (12 * 0 + j)) = (fun j => I 387 (12 * 0 + j)) from funext fun j => e 387 _ (by omega)]
  unfold zN Pt
  rw [e56, e44, eR, show I' 379 = I 379 from funext fun k => e 379 k (by omega), show I' 380 = I 380 from funext fun k => e 380 k (by omega), show I' 386 = I 386 from funext fun k => e 386 k (by omega), show I' 384 = I 384 from funext fun k => e 384 k (by omega), show I' 387 = I 387 from funext fun k => e 387 k (by omega)]
  exact h
theorem zU.c {t np q n m u sn : Nat} {I I' : Nat → Nat → Int32} {P P' : Nat → Nat → Nat} (h : zU t np q n m u sn I P) (e : ∀ a k, ((a = 0 ∧ (k = 12 ∨ k = 13)) ∨ (44 ≤ a ∧ a ≤ 67) ∨ (107 ≤ a ∧ a < 347) ∨ (a = 347 ∧ k = 83) ∨ a = 400) → I' a k = I a k) (eP : ∀ b, 107 ≤ b → b < 347 → P' b 0 = P b 0) : zU t np q n m u sn I' P' := by
  obtain ⟨h1, h2, h3, h4, h5, N, h6, h7⟩ := h
  refine ⟨h1, h2, (e _ _ (by omega)).trans h3, (e _ _ (by omega)).trans h4, (e _ _ (by omega)).trans h5, N, fun i hi => ?_, h7⟩
  have z := sv_i sn u i
  obtain ⟨w1, Vs, w3, w2⟩ := h6 i hi
  refine ⟨(eP _ (by omega) (by omega)).trans w1, Vs, by rw [show vB I' (sv sn u i) = vB I (sv sn u i) from vB_c (fun a k z1 z2 => e a k (by omega))]; exact w3, ?_⟩
  unfold eU
  rw [show vB I' 56 = vB I 56 from vB_c (fun a k z1 z2 => e a k (by omega)), show vB I' 44 = vB I 44 from vB_c (fun a k z1 z2 => e a k (by omega)), show I' 400 = I 400 from funext fun k => e 400 k (by omega)]
  exact w2
