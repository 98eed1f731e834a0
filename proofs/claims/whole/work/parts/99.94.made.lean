/-! the constructor of the reference, whole -/
theorem PT_le4 : ∀ a, a < 404 → ∀ v ∈ PT.getD a [], v ≤ 404 := by decide +kernel
theorem PCC_le {a : Nat} (h : a < 404) (k : Nat) : PCC a k ≤ 404 := by
  show PI a k ≤ 404
  unfold PI
  rw [List.getD_eq_getElem?_getD]
  cases e : (PT.getD a [])[k]? with
  | none => exact Nat.zero_le _
  | some v => exact PT_le4 a h v (List.mem_of_getElem? e)
set_option maxHeartbeats 2000000 in
theorem i_X11 (d : Nat) : ∃ IF J', xEx NoE true (d + 5) yX11_init [.ref 347] (SH.take (347 + 1), ICC, J0, zr PCC 347) none (SH.take 404, IF, J', PCC) ∧ RX IF PCC ∧ ∀ k, IF 404 k = 0 := by
  have hr : ∀ k, PCC 347 k = RW.getD k 0 := fun k => PI_r prow_347 k
  have hz : ∀ a k, 348 ≤ a → a < 404 → PCC a k = 0 := fun a k h1 h2 => by
    have := prow_a348 (a - 348) (by omega)
    rw [show 348 + (a - 348) = a by omega] at this
    exact PI_e this k
  have hI : ∀ a k, 347 ≤ a → ICC a k = 0 := fun a k h => ICC_z (by omega) (by omega) (by omega)
  generalize eb : xu (xu (IW ICC 117) 347 5 (-1)) 347 77 (-1) = Ib
  have bz : ∀ a k, ¬ (a = 347 ∧ (k = 5 ∨ k = 77)) → a ≠ 349 → Ib a k = ICC a k := fun a k h1 h2 => by
    rw [← eb, xu_ne (by omega), xu_ne (by omega), IW_o _ _ h2]
  have bz0 : ∀ a k, 347 ≤ a → ¬ (a = 347 ∧ (k = 5 ∨ k = 77)) → a ≠ 349 → Ib a k = 0 := fun a k h h1 h2 => (bz a k h1 h2).trans (hI a k h)
  obtain ⟨M1, hpl, ⟨m16, m17, m18, m19, m47, m350, m351', m3512, m362, m366⟩, hm⟩ := pln_r Ib
  have p1 := hpl NoE false Ib J0 PCC 1 (Nat.le_refl _) PCC_ok
  rw [uR_id] at p1
  have mz : ∀ a k, 352 ≤ a → a ≤ 403 → a ≠ 362 → M1 a k = 0 ∨ (a = 366 ∧ 3 ≤ k) := fun a k h1 h2 h3 => by
    by_cases e : a = 366 ∧ 3 ≤ k
    · exact Or.inr e
    · exact Or.inl ((hm a k (by omega)).trans (bz0 a k (by omega) (by omega) (by omega)))
  have mz' : ∀ a k, 352 ≤ a → a ≤ 403 → a ≠ 362 → a ≠ 366 → M1 a k = 0 := fun a k h1 h2 h3 h4 => (mz a k h1 h2 h3).elim id (fun z => absurd z.1 h4)
  obtain ⟨J', p2⟩ := kpt_k (E := NoE) (ex := false) (M := M1) (I := Ib) (J := J0) (P := PCC) PCC_ok (fun l hl => Or.inl (m366 l hl)) (q := 0) (by omega) m17 (fun j => Or.inl (mz' 361 j (by omega) (by omega) (by omega) (by omega))) (fun j hj => Or.inl (mz' 387 j (by omega) (by omega) (by omega) (by omega))) (n := 3) (Nat.le_refl _)
  generalize eX : uR (kpP 372 M1) Ib = X at p2
  have X1 : ∀ a k, ¬ (347 ≤ a ∧ a ≤ 403) → X a k = Ib a k := fun a k h => by rw [← eX]; simp only [uR]; rw [if_neg h]
  have X2 : ∀ a k, 347 ≤ a → a ≤ 403 → X a k = kpP 372 M1 a k := fun a k h1 h2 => by rw [← eX]; simp only [uR]; rw [if_pos ⟨h1, h2⟩]
  have Xz : ∀ a k, 352 ≤ a → a ≤ 403 → a ≠ 362 → a ≠ 366 → X a k = 0 := fun a k h1 h2 h3 h4 => by
    rw [X2 a k (by omega) h2]; unfold kpP
    rw [if_neg (by omega)]
    split
    · exact mz' _ _ h1 h2 h3 h4
    · exact mz' _ _ h1 h2 h3 h4
  have X351 : X 351 0 = 0 := by
    rw [X2 _ _ (by omega) (by omega)]; unfold kpP
    rw [if_neg (by omega), if_pos (by decide)]; exact m3512
  have X366 : ∀ w, w < 3 → X 366 w = 0 := fun w h => by
    rw [X2 _ _ (by omega) (by omega)]; unfold kpP
    rw [if_neg (by omega), if_pos (by simp [wd]; omega), show wd 366 = 3 from rfl]; exact m366 w h
  have X347 : ∀ k, ¬ (12 ≤ k ∧ k ≤ 15) → X 347 k = M1 347 k := fun k h => by
    rw [X2 _ _ (by omega) (by omega)]; unfold kpP
    rw [if_neg (by omega), if_neg (by omega)]
  have Xt : ∀ k, 12 ≤ k → k ≤ 15 → X 347 k = M1 347 (k + 4) := fun k h1 h2 => by
    rw [X2 _ _ (by omega) (by omega)]; unfold kpP
    rw [if_pos ⟨rfl, h1, h2⟩]
  have M347 : ∀ k, ¬ ((16 ≤ k ∧ k ≤ 19) ∨ k = 47) → M1 347 k = Ib 347 k := fun k h => hm 347 k (by omega)
  have V0 := aT_00 (X := X) (fun a k h1 h2 => Xz a k (by omega) (by omega) (by omega) (by omega)) (fun k _ => ⟨Xz 353 k (by omega) (by omega) (by omega) (by omega), Xz 354 k (by omega) (by omega) (by omega) (by omega)⟩) X351
  generalize aT X 0 0 (vR X 0) = V at p2 V0
  generalize eB : wE (xu (xu (xu (xu (rPl X) 347 76 0) 347 77 (-1)) 347 83 0) 347 85 0) (M1 347 52) = B at p2
  have B1 : ∀ a k, a ≠ 347 → B a k = X a k := fun a k h => by
    rw [← eB]; unfold wE rPl; rw [xu_ne (by omega), xu_ne (by omega), xu_ne (by omega), xu_ne (by omega), xu_ne (by omega), xu_ne (by omega), xu_ne (by omega), xu_ne (by omega)]
  have B2 : ∀ k, k ≠ 52 → k ≠ 76 → k ≠ 77 → k ≠ 83 → k ≠ 85 → k ≠ 69 → k ≠ 70 → k ≠ 71 → B 347 k = X 347 k := fun k h1 h2 h3 h4 h5 h6 h7 h8 => by
    rw [← eB]; unfold wE rPl; rw [xu_ne (by omega), xu_ne (by omega), xu_ne (by omega), xu_ne (by omega), xu_ne (by omega), xu_ne (by omega), xu_ne (by omega), xu_ne (by omega)]
  have F1 : ∀ a k, ¬ (376 ≤ a ∧ a ≤ 390) → wR B 0 V a k = B a k := fun a k h => by unfold wR; rw [if_neg (fun z => h z.1)]
  have b5 : Ib 347 5 = -1 := by rw [← eb, xu_ne (by omega), xu_s]
  refine ⟨wR B 0 V, J', ?_, ⟨31, 0, 0, 0, 0, 0, 0, 0, 0, Rel_00 ?_ ?_ ?_ ?_ ?_ ?_ ?_⟩, ?_⟩
  · have q1 := xEx_rs (n := 404) 1 _ _ _ _ _ p1 (fun a h k => PCC_le h k) (sOk.c (vOk.r (by omega)) sOk.n)
    have q2 := xEx_rs (n := 404) 3 _ _ _ _ _ p2 (fun a h k => PCC_le h k) (sOk.c (vOk.r (by omega)) sOk.n)
    refine x_enter cqX11_init [some (.ref 347)] rfl (by simp [lg_sl, Value.category]) ?_
    refine i_X11a hI hr hz ?_
    rw [eb]
    refine r_aload_n dX11_init_1158 rfl ?_
    refine r_cV0v dX11_init_1159 vlX11_187 (tk sh_347 (by omega)) (by simp) (x_le (by omega) q1.1) ?_
    refine r_aload_n dX11_init_1162 rfl ?_
    refine r_cV0v dX11_init_1163 vlX11_190 (tk sh_347 (by omega)) (by simp) (x_le (by omega) q2.1) ?_
    exact r_vret dX11_init_1166 rfl rfl rfl
  · intro a k h
    rw [F1 a k (by omega), B1 a k (by omega), X1 a k (by omega), bz a k (by omega) (by omega)]
  · intro a k h1 h2
    exact wR_00 (fun a k h1 h2 => (B1 a k (by omega)).trans (Xz a k (by omega) (by omega) (by omega) (by omega))) V0 h1 h2 k
  · intro i hi
    rw [F1 _ _ (by omega), B1 _ _ (by omega), X2 _ _ (by omega) (by omega)]
    unfold kpP
    rw [if_neg (by omega), if_neg (by omega), hm _ _ (by omega), ← eb, xu_ne (by omega), xu_ne (by omega)]
    unfold IW
    rw [if_pos ⟨rfl, hi⟩]
  · refine ⟨?_, ?_, ?_, ?_, ?_, ?_, ?_, ?_, ?_, ?_, ?_⟩
    · rw [F1 _ _ (by omega), B2 _ (by omega) (by omega) (by omega) (by omega) (by omega) (by omega) (by omega) (by omega), X347 _ (by omega), M347 _ (by omega), bz0 _ _ (by omega) (by omega) (by omega)]
    · rw [F1 _ _ (by omega), B2 _ (by omega) (by omega) (by omega) (by omega) (by omega) (by omega) (by omega) (by omega), X347 _ (by omega), M347 _ (by omega), bz0 _ _ (by omega) (by omega) (by omega)]
    · rw [F1 _ _ (by omega), B2 _ (by omega) (by omega) (by omega) (by omega) (by omega) (by omega) (by omega) (by omega), X347 _ (by omega), M347 _ (by omega), b5]
    · rw [F1 _ _ (by omega), B2 _ (by omega) (by omega) (by omega) (by omega) (by omega) (by omega) (by omega) (by omega), Xt _ (by omega) (by omega)]; exact m16
    · rw [F1 _ _ (by omega), B2 _ (by omega) (by omega) (by omega) (by omega) (by omega) (by omega) (by omega) (by omega), Xt _ (by omega) (by omega)]; exact m17
    · rw [F1 _ _ (by omega), B2 _ (by omega) (by omega) (by omega) (by omega) (by omega) (by omega) (by omega) (by omega), Xt _ (by omega) (by omega)]; exact m18
    · rw [F1 _ _ (by omega), B2 _ (by omega) (by omega) (by omega) (by omega) (by omega) (by omega) (by omega) (by omega), Xt _ (by omega) (by omega)]; exact m19
    · rw [F1 _ _ (by omega), ← eB]; unfold wE; rw [xu_ne (by omega), xu_ne (by omega), xu_ne (by omega), xu_ne (by omega), xu_s]
    · rw [F1 _ _ (by omega), ← eB]; unfold wE; rw [xu_ne (by omega), xu_ne (by omega), xu_ne (by omega), xu_s]
    · rw [F1 _ _ (by omega), ← eB]; unfold wE; rw [xu_ne (by omega), xu_ne (by omega), xu_s]
    · rw [F1 _ _ (by omega), ← eB]; unfold wE; rw [xu_ne (by omega), xu_s]
  · intro w h
    rw [F1 _ _ (by omega), B1 _ _ (by omega), X366 w h]
  · rw [F1 _ _ (by omega), B1 _ _ (by omega), X351]
  · intro a k h
    rw [F1 _ _ (by omega), B1 _ _ (by omega), Xz a k (by omega) (by omega) (by omega) (by omega)]
  · intro k
    rw [F1 _ _ (by omega), B1 _ _ (by omega), X1 _ _ (by omega), bz0 _ _ (by omega) (by omega) (by omega)]
