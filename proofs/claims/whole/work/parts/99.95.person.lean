/-! person: both answer alike -/
theorem ag_2 (I : Nat → Nat → Int32) (v e : Int32) : Ag I (wE (xu I 347 2 v) e) := fun a k z => by
  unfold wE
  rw [xu_ne (by omega), xu_ne (by omega)]
theorem postRv {I : Nat → Nat → Int32} (hp : Pt I) (v e : Int32) : wR (wE (xu I 347 2 v) e) 0 (vR I 0) = wE (xu I 347 2 v) e := by
  have := wR0 (hp.x2 2 v) e
  rwa [vR_x2] at this
theorem person_R {E : xCl} {ex : Bool} {I : Nat → Nat → Int32} {P : Nat → Nat → Nat} (hX : RX I P) (x w : Int32) : ∃ (t n np k : Nat) (v bb : Int32) (I2 : Nat → Nat → Int32), t ∈ TL ∧ Pok P ∧ P 0 5 = t + 1 ∧ P 56 0 = t + 1 ∧ Vok (vB I 56) n ∧ I t 3 = nI np ∧ np ≤ 6 ∧ ((k = 0 ∧ isP I t x ∧ ¬ w < 0 ∧ w ≤ 5 ∧ v = cPs I t n x w) ∨ (k = 1 ∧ ¬ isP I t x) ∨ (k = 2 ∧ isP I t x ∧ (w.toInt < 0 ∨ 5 < w.toInt))) ∧ (∀ J : Nat → Nat → Int64, xEx E ex 5 yX11_person [.ref 347, .int x, .int w] (SH, I, J, P) (some (.int bb)) (SH, I2, J, P)) ∧ I2 347 2 = nI k ∧ (k = 0 → v = bb) ∧ k ≤ 2 ∧ RX I2 P := by
  obtain ⟨t, np, q, n, m, s, kb, u, sn, h⟩ := hX
  have h1 := h.1
  have h3 := h.2.2.1
  have h7 := h.2.2.2.2.2.2.1
  have hp := h7.2.2.2.2.2
  have vv := h7.2.1
  have hv := h7.1.1
  have RXv : ∀ v : Int32, RX (wE (xu I 347 2 v) (I 347 52)) P := fun v => ⟨t, np, q, n, m, s, kb, u, sn, h.g (ag_2 I v _) (Ap.rf P) ((hp.x2 2 v).x2 52 _)⟩
  have e2 : ∀ v : Int32, wE (xu I 347 2 v) (I 347 52) 347 2 = v := fun v => by unfold wE; rw [xu_ne (by omega), xu_s]
  have i12 : ∀ v : Int32, xu I 347 2 v 347 12 = nI np := fun v => (xu_ne (by omega)).trans h3.2.2.1
  by_cases c1 : isP I t x
  · have c2 : ¬ x < 0 ∧ ¬ xu I 347 2 0 347 12 ≤ x := ⟨c1.1, by rw [i12, ← h3.2.1]; exact c1.2⟩
    obtain ⟨j, hj, rfl⟩ := in_lt (m := np) (by have := h3.1; omega) c1.1 (by have := c1.2; rw [h3.2.1] at this; exact Int32.not_le.mp this)
    by_cases c3 : ¬ w < 0 ∧ w ≤ 5
    · have rr := fun J => k_rperson (E := E) (ex := ex) (I := I) (V := vR I 0) (e := I 347 52) (J := J) (P := P) h1.2.1 rfl h7.rv.1 h3.1 (i12 0) c2 c3.1 c3.2 2
      rw [preR hp, postR hp] at rr
      refine ⟨t, n, np, 0, _, _, _, h1.1, h1.2.1, h1.2.2.1, h1.2.2.2.2.2, hv, h3.2.1, h3.1, Or.inl ⟨rfl, c1, c3.1, c3.2, rfl⟩, rr, e2 0, fun _ => ?_, by omega, RXv 0⟩
      have jc : (nI j).toNatClampNeg = j := nI_clamp (by have := h3.1; omega)
      have g := h3.2.2.2 j hj
      unfold cPs rPs
      rw [jc, (vv.1 j hj).1, (vv.1 j hj).2, g.2.2.2, g.2.1, xu_ne (by omega), xu_ne (by omega), vv.ow _ _ n (Nat.le_refl _), vv.ow _ _ n (Nat.le_refl _)]
    · have c4 : w.toInt < 0 ∨ 5 < w.toInt := by
        by_cases z : w < 0
        · exact Or.inl (by simpa using Int32.lt_iff_toInt_lt.mp z)
        · have z2 : ¬ w ≤ 5 := fun y => c3 ⟨z, y⟩
          exact Or.inr (by simpa using Int32.lt_iff_toInt_lt.mp (Int32.not_le.mp z2))
      have rr := fun J => k_rperson_w (E := E) (ex := ex) (I := I) (V := vR I 0) (e := I 347 52) (J := J) (P := P) h1.2.1 rfl c2 c4 3
      rw [preR hp, postRv hp] at rr
      exact ⟨t, n, np, 2, 0, _, _, h1.1, h1.2.1, h1.2.2.1, h1.2.2.2.2.2, hv, h3.2.1, h3.1, Or.inr (Or.inr ⟨rfl, c1, c4⟩), rr, e2 2, fun z => absurd z (by omega), by omega, RXv 2⟩
  · have rr := fun J => k_rperson_n (E := E) (ex := ex) (I := I) (V := vR I 0) (e := I 347 52) (J := J) (P := P) h1.2.1 rfl w (x := x) (fun z => c1 ⟨z.1, by rw [h3.2.1, ← i12 0]; exact z.2⟩) 3
    rw [preR hp, postRv hp] at rr
    exact ⟨t, n, np, 1, 0, _, _, h1.1, h1.2.1, h1.2.2.1, h1.2.2.2.2.2, hv, h3.2.1, h3.1, Or.inr (Or.inl ⟨rfl, c1⟩), rr, e2 1, fun z => absurd z (by omega), by omega, RXv 1⟩
theorem k_rthrown {E : xCl} {ex : Bool} {I : Nat → Nat → Int32} {J : Nat → Nat → Int64} {P : Nat → Nat → Nat} (d : Nat) : xEx E ex (d + 1) yX11_thrown [.ref 347] (SH, I, J, P) (some (.int (I 347 2))) (SH, I, J, P) := by
  refine x_enter cqX11_thrown [some (.ref 347)] rfl (by simp [lg_sl, Value.category]) ?_
  refine r_aload_n dX11_thrown_0 rfl ?_
  refine r_getI dX11_thrown_1 flX11_193 sh_347 (by decide) rfl ?_
  exact r_iret dX11_thrown_4 rfl rfl rfl rfl
