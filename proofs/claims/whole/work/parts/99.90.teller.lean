/-! constructors: the teller, and clearing -/
theorem row_fix {P P' : Nat → Nat → Nat} {n : Nat} {l : List Nat} (ho : ∀ a k, a ≠ n → P' a k = P a k) (hr : ∀ k, P n k = l.getD k 0) (h0 : ∀ k, P' n k = l.getD k 0) : P' = P := by
  funext a k
  by_cases e : a = n
  · subst e; rw [h0, hr]
  · exact ho a k e
theorem i_X1 {E : xCl} {I : Nat → Nat → Int32} {P : Nat → Nat → Nat} (hI : ∀ a k, 29 ≤ a → I a k = 0) (hP : ∀ a k, 29 ≤ a → a < 31 → P a k = PI a k) (d : Nat) : xEx E true (d + 1) yX1_init [.ref 29, .ref 28] (SH.take (29 + 1), I, J0, zr P 29) none (SH.take 31, I, J0, P) := by
  have hr : ∀ k, P 29 k = [29, 31].getD k 0 := fun k => (hP _ k (by omega) (by omega)).trans (PI_r prow_29 k)
  have s29 : SH[29]? = some (.inl 1, 7) := by decide +kernel
  refine x_enter cqX1_init [some (.ref 29), some (.ref 28)] rfl (by simp [lg_sl, Value.category]) ?_
  refine r_aload_n dX1_init_0 rfl ?_
  refine r_oi dX1_init_1 olX1_5 (by simp [Value.category]) ?_
  refine r_aload_n dX1_init_4 rfl ?_
  refine r_bipush (v := 72) dX1_init_5 (by decide) ?_
  refine c_newa (q := 29 + 1) (m := 72) dX1_init_7 ⟨by decide, by decide, by decide⟩ rfl (by decide +kernel) (fun k => hI _ k (by omega)) (fun k => by simp only [zr]; exact (hP _ k (by omega) (by omega)).trans (PI_e prow_30 k)) ?_
  refine r_putR dX1_init_9 flX1_11 ⟨_, _, _, rfl, Or.inr ⟨rfl, rfl, rfl⟩⟩ (tk s29 (by omega)) (by decide) rfl rfl ?_
  refine r_aload_n dX1_init_12 rfl ?_
  refine r_aload_n dX1_init_13 rfl ?_
  refine r_putR dX1_init_14 flX1_15 ⟨_, _, _, rfl, Or.inr ⟨rfl, rfl, rfl⟩⟩ (tk s29 (by omega)) (by decide) rfl rfl ?_
  exact r_vret dX1_init_17 rfl rfl (congrArg (fun z => ((SH.take 31, I, J0, z) : xS)) (row_fix (P := P) (n := 29) (fun a k h => by simp [xu, zr, h]) hr (fun k => by rcases k with _ | _ | k <;> simp [xu, zr])).symm)
set_option maxHeartbeats 1000000 in
theorem i_X7 {E : xCl} {I : Nat → Nat → Int32} {P : Nat → Nat → Nat} (hI : ∀ a k, 2 ≤ a → I a k = 0) (hP : ∀ a k, 2 ≤ a → a < 31 → P a k = PI a k) (d : Nat) : xEx E true (d + 4) yX7_init [.ref 2, .ref 1] (SH.take (2 + 1), I, J0, zr P 2) none (SH.take 31, lCl I 3 3, J0, P) := by
  have hr : ∀ k, P 2 k = [29, 30, 4, 17].getD k 0 := fun k => (hP _ k (by omega) (by omega)).trans (PI_r prow_2 k)
  have hI2 : ∀ a k, 16 ≤ a → lCl I 3 3 a k = 0 := fun a k z => (lCl_o (by omega) k).trans (hI a k (by omega))
  have s2 : SH[2]? = some (.inl 7, 7) := by decide +kernel
  refine x_enter cqX7_init [some (.ref 2), some (.ref 1)] rfl (by simp [lg_sl, Value.category]) ?_
  refine r_aload_n dX7_init_0 rfl ?_
  refine r_oi dX7_init_1 olX7_3 (by simp [Value.category]) ?_
  refine r_aload_n dX7_init_4 rfl ?_
  refine c_new (q := 3) dX7_init_5 nlX7_9 (tl_s 3 (by decide)) (fun k => hI _ k (by omega)) ?_
  refine r_dup dX7_init_8 rfl ?_
  refine r_cI0 dX7_init_9 ilX7_11 (by simp [Value.category]) (i_X6 (t := 3) (by decide) (fun a k z => hI a k (by omega)) (fun a k z1 z2 => by simp only [zr, if_neg (show ¬ a = 2 by omega)]; exact hP a k (by omega) (by omega)) d) ?_
  refine r_putR dX7_init_12 flX7_12 ⟨_, _, _, rfl, Or.inl rfl⟩ (tk s2 (by omega)) (by decide) rfl rfl ?_
  refine r_aload_n dX7_init_15 rfl ?_
  refine c_new (q := 16) dX7_init_16 nlX7_18 (br_s 16 (by decide)) (fun k => hI2 _ k (by omega)) ?_
  refine r_dup dX7_init_19 rfl ?_
  refine r_aload_n dX7_init_20 rfl ?_
  refine r_getR dX7_init_21 flX7_12 (tk s2 (by omega)) (by decide) rfl (v := 3) (by simp [zr, xu]) ?_
  refine r_cI1 dX7_init_24 ilX7_20 (by simp [Value.category]) (i_X0 (b := 16) (by decide) (t := 3) (by decide +kernel) (fun a k z => hI2 a k (by omega)) (fun a k z1 z2 => by rw [xu_ne (by omega)]; simp only [zr, if_neg (show ¬ a = 2 by omega)]; exact hP a k (by omega) (by omega)) (d + 1)) ?_
  refine r_putR dX7_init_27 flX7_23 ⟨_, _, _, rfl, Or.inr ⟨rfl, rfl, rfl⟩⟩ (tk s2 (by omega)) (by decide) rfl rfl ?_
  refine r_aload_n dX7_init_30 rfl ?_
  refine c_new (q := 28) dX7_init_31 nlX7_27 sh_28 (fun k => hI2 _ k (by omega)) ?_
  refine r_dup dX7_init_34 rfl ?_
  refine r_aload_n dX7_init_35 rfl ?_
  refine r_cI1 dX7_init_36 ilX7_29 (by simp [Value.category]) (i_X8 (fun a k z => hI2 a k (by omega)) (fun a k z1 z2 => by rw [xu_ne (by omega), xu_ne (by omega)]; simp only [zr, if_neg (show ¬ a = 2 by omega)]; exact hP a k (by omega) (by omega)) (d + 2)) ?_
  refine r_putR dX7_init_39 flX7_32 ⟨_, _, _, rfl, Or.inr ⟨rfl, rfl, rfl⟩⟩ (tk s2 (by omega)) (by decide) rfl rfl ?_
  refine r_aload_n dX7_init_42 rfl ?_
  refine c_new (q := 29) dX7_init_43 nlX7_36 (by decide +kernel) (fun k => hI2 _ k (by omega)) ?_
  refine r_dup dX7_init_46 rfl ?_
  refine r_aload_n dX7_init_47 rfl ?_
  refine r_getR dX7_init_48 flX7_32 (tk s2 (by omega)) (by decide) rfl (v := 28) (by simp [zr, xu]) ?_
  refine r_cI1 dX7_init_51 ilX7_38 (by simp [Value.category]) (i_X1 (fun a k z => hI2 a k (by omega)) (fun a k z1 z2 => by rw [xu_ne (by omega), xu_ne (by omega), xu_ne (by omega)]; simp only [zr, if_neg (show ¬ a = 2 by omega)]; exact hP a k (by omega) (by omega)) (d + 2)) ?_
  refine r_putR dX7_init_54 flX7_41 ⟨_, _, _, rfl, Or.inr ⟨rfl, rfl, rfl⟩⟩ (tk s2 (by omega)) (by decide) rfl rfl ?_
  exact r_vret dX7_init_57 rfl rfl (congrArg (fun z => ((SH.take 31, lCl I 3 3, J0, z) : xS)) (row_fix (P := P) (n := 2) (fun a k h => by simp [xu, zr, h]) hr (fun k => by rcases k with _ | _ | _ | _ | k <;> simp [xu, zr])).symm)
