/-! constructors: the teller, and clearing -/
theorem row_fix {P P' : Nat → Nat → Nat} {n : Nat} {l : List Nat} (ho : ∀ a k, a ≠ n → P' a k = P a k) (hr : ∀ k, P n k = l.getD k 0) (h0 : ∀ k, P' n k = l.getD k 0) : P' = P := by
  funext a k
  by_cases e : a = n
  · subst e; rw [h0, hr]
  · exact ho a k e
theorem i_X1 {E : xCl} {I : Nat → Nat → Int32} {P : Nat → Nat → Nat} (hI : ∀ a k, 29 ≤ a → I a k = 0) (hP : ∀ a k, 29 ≤ a → a < 31 → P a k = PI a k) (d : Nat) : xEx E true (d + 1) yX1_init [.ref 29, .ref 28] (SH.take (29 + 1), I, J0, zr P 29) none (SH.take 31, I, J0, P) := by
  have hr : ∀ k, P 29 k = [29, 31].getD k 0 := fun k => (hP _ k (by omega) (by omega)).trans (PI_r prow_29 k)
  have s29 : SH[29]? = some (.inl 1, 7) := by decide +kernel
  refine x_enter cqX1_init [some (.ref 29), some (.ref 28)] rfl (by simp [lg_sl, Value.category]) ?_
  refine r_aload_n dX1_init_0 rfl ?_
  refine r_oi dX1_init_1 olX1_5 (by simp [Value.category]) ?_
  refine r_aload_n dX1_init_4 rfl ?_
  refine r_bipush (v := 72) dX1_init_5 (by decide) ?_
  refine c_newa (q := 29 + 1) (m := 72) dX1_init_7 ⟨by decide, by decide, by decide⟩ rfl (by decide +kernel) (fun k => hI _ k (by omega)) (fun k => by simp only [zr]; exact (hP _ k (by omega) (by omega)).trans (PI_e prow_30 k)) ?_
  refine r_putR dX1_init_9 flX1_11 ⟨_, _, _, rfl, Or.inr ⟨rfl, rfl, rfl⟩⟩ (tk s29 (by omega)) (by decide) rfl rfl ?_
  refine r_aload_n dX1_init_12 rfl ?_
  refine r_aload_n dX1_init_13 rfl ?_
  refine r_putR dX1_init_14 flX1_15 ⟨_, _, _, rfl, Or.inr ⟨rfl, rfl, rfl⟩⟩ (tk s29 (by omega)) (by decide) rfl rfl ?_
  exact r_vret dX1_init_17 rfl rfl (congrArg (fun z => ((SH.take 31, I, J0, z) : xS)) (row_fix (P := P) (n := 29) (fun a k h => by simp [xu, zr, h]) hr (fun k => by rcases k with _ | _ | k <;> simp [xu, zr])).symm)
set_option maxHeartbeats 1000000 in
theorem i_X7 {E : xCl} {I : Nat → Nat → Int32} {P : Nat → Nat → Nat} (hI : ∀ a k, 2 ≤ a → I a k = 0) (hP : ∀ a k, 2 ≤ a → a < 31 → P a k = PI a k) (d : Nat) : xEx E true (d + 3) yX7_init [.ref 2, .ref 1] (SH.take (2 + 1), I, J0, zr P 2) none (SH.take 31, I, J0, P) := by
  have hr : ∀ k, P 2 k = [29, 30, 4, 17].getD k 0 := fun k => (hP _ k (by omega) (by omega)).trans (PI_r prow_2 k)
  have s2 : SH[2]? = some (.inl 7, 7) := by decide +kernel
  refine x_enter cqX7_init [some (.ref 2), some (.ref 1)] rfl (by simp [lg_sl, Value.category]) ?_
  refine r_aload_n dX7_init_0 rfl ?_
  refine r_oi dX7_init_1 olX7_3 (by simp [Value.category]) ?_
  refine r_aload_n dX7_init_4 rfl ?_
  refine c_new (q := 3) dX7_init_5 nlX7_9 (tl_s 3 (by decide)) (fun k => hI _ k (by omega)) ?_
  refine r_dup dX7_init_8 rfl ?_
  refine r_cI0 dX7_init_9 ilX7_11 (by simp [Value.category]) (i_X6 (t := 3) (by decide) (fun a k z => hI a k (by omega)) (fun a k z1 z2 => by simp only [zr, if_neg (show ¬ a = 2 by omega)]; exact hP a k (by omega) (by omega)) d) ?_
  refine r_putR dX7_init_12 flX7_12 ⟨_, _, _, rfl, Or.inl rfl⟩ (tk s2 (by omega)) (by decide) rfl rfl ?_
  refine r_aload_n dX7_init_15 rfl ?_
  refine c_new (q := 16) dX7_init_16 nlX7_18 (br_s 16 (by decide)) (fun k => hI _ k (by omega)) ?_
  refine r_dup dX7_init_19 rfl ?_
  refine r_cI0 dX7_init_20 ilX7_20 (by simp [Value.category]) (i_X0 (b := 16) (by decide) (fun a k z => hI a k (by omega)) (fun a k z1 z2 => by rw [xu_ne (by omega)]; simp only [zr, if_neg (show ¬ a = 2 by omega)]; exact hP a k (by omega) (by omega)) (d + 1)) ?_
  refine r_putR dX7_init_23 flX7_21 ⟨_, _, _, rfl, Or.inr ⟨rfl, rfl, rfl⟩⟩ (tk s2 (by omega)) (by decide) rfl rfl ?_
  refine r_aload_n dX7_init_26 rfl ?_
  refine c_new (q := 28) dX7_init_27 nlX7_25 sh_28 (fun k => hI _ k (by omega)) ?_
  refine r_dup dX7_init_30 rfl ?_
  refine r_aload_n dX7_init_31 rfl ?_
  refine r_cI1 dX7_init_32 ilX7_27 (by simp [Value.category]) (i_X8 (fun a k z => hI a k (by omega)) (fun a k z1 z2 => by rw [xu_ne (by omega), xu_ne (by omega)]; simp only [zr, if_neg (show ¬ a = 2 by omega)]; exact hP a k (by omega) (by omega)) (d + 1)) ?_
  refine r_putR dX7_init_35 flX7_30 ⟨_, _, _, rfl, Or.inr ⟨rfl, rfl, rfl⟩⟩ (tk s2 (by omega)) (by decide) rfl rfl ?_
  refine r_aload_n dX7_init_38 rfl ?_
  refine c_new (q := 29) dX7_init_39 nlX7_34 (by decide +kernel) (fun k => hI _ k (by omega)) ?_
  refine r_dup dX7_init_42 rfl ?_
  refine r_aload_n dX7_init_43 rfl ?_
  refine r_getR dX7_init_44 flX7_30 (tk s2 (by omega)) (by decide) rfl (v := 28) (by simp [zr, xu]) ?_
  refine r_cI1 dX7_init_47 ilX7_36 (by simp [Value.category]) (i_X1 (fun a k z => hI a k (by omega)) (fun a k z1 z2 => by rw [xu_ne (by omega), xu_ne (by omega), xu_ne (by omega)]; simp only [zr, if_neg (show ¬ a = 2 by omega)]; exact hP a k (by omega) (by omega)) (d + 1)) ?_
  refine r_putR dX7_init_50 flX7_39 ⟨_, _, _, rfl, Or.inr ⟨rfl, rfl, rfl⟩⟩ (tk s2 (by omega)) (by decide) rfl rfl ?_
  exact r_vret dX7_init_53 rfl rfl (congrArg (fun z => ((SH.take 31, I, J0, z) : xS)) (row_fix (P := P) (n := 2) (fun a k h => by simp [xu, zr, h]) hr (fun k => by rcases k with _ | _ | _ | _ | k <;> simp [xu, zr])).symm)
/-- the laws of a tale cleared -/
def lCl (I : Nat → Nat → Int32) (t j : Nat) : Nat → Nat → Int32 := fun a k => if (a = t + 9 ∨ a = t + 10) ∧ k < j then -1 else I a k
theorem lCl_x (I : Nat → Nat → Int32) (t j : Nat) : xu (xu (lCl I t j) (t + 9) j (-1)) (t + 10) j (-1) = lCl I t (j + 1) := by
  funext a k
  unfold xu lCl
  by_cases e1 : a = t + 10 ∧ k = j
  · rw [if_pos e1, if_pos (by omega)]
  · rw [if_neg e1]
    by_cases e2 : a = t + 9 ∧ k = j
    · rw [if_pos e2, if_pos (by omega)]
    · rw [if_neg e2]
      by_cases e3 : (a = t + 9 ∨ a = t + 10) ∧ k < j
      · rw [if_pos e3, if_pos (by omega)]
      · rw [if_neg e3, if_neg (by omega)]
theorem xu_sv {α : Type} {f : Nat → Nat → α} {a k : Nat} {v : α} (h : f a k = v) : xu f a k v = f := by
  funext a' k'
  unfold xu
  split
  · rename_i e; rw [e.1, e.2, h]
  · rfl
theorem i_lclr {E : xCl} {ex : Bool} {t : Nat} (ht : t ∈ TL) {sh : List (xK × Nat)} (h0 : sh[t + 7]? = some (.inl 2, 7)) (h1 : sh[t + 9]? = some (.inr 0, 3)) (h2 : sh[t + 10]? = some (.inr 0, 3)) {I : Nat → Nat → Int32} {J : Nat → Nat → Int64} {P : Nat → Nat → Nat} (p1 : P (t + 7) 1 = t + 9 + 1) (p2 : P (t + 7) 2 = t + 10 + 1) (z5 : I (t + 7) 5 = 0) (z6 : I (t + 7) 6 = 0) (d : Nat) : xEx E ex (d + 1) yX2_clear [.ref (t + 7)] (sh, I, J, P) none (sh, lCl I t 3, J, P) := by
  refine x_enter cqX2_clear [some (.ref (t + 7)), none] rfl (by simp [lg_sl, Value.category]) ?_
  refine r_iconst (v := 0) dX2_clear_0 (by decide) ?_
  refine r_istore_n1 dX2_clear_1 rfl ?_
  have e0 : I = lCl I t 0 := by funext a k; simp [lCl]
  have loop : ∀ c j, j + c = 3 → xR (xEx E ex d) ex none yX2_clear cX2_clear none 2 [some (.ref (t + 7)), some (.int (nI j))] [] (sh, lCl I t j, J, P) (xEq none (sh, lCl I t 3, J, P)) := by
    intro c
    induction c with
    | zero =>
      intro j hj
      obtain rfl : j = 3 := by omega
      refine r_iload_n dX2_clear_2 rfl ?_
      refine r_iconst (v := 3) dX2_clear_3 (by decide) ?_
      refine r_ic_ge 27 dX2_clear_4 (by decide) (fun _ => ?_) (fun h => absurd (show (3 : Int32) ≤ nI 3 by decide) h)
      refine r_aload_n dX2_clear_27 rfl ?_
      refine r_iconst (v := 0) dX2_clear_28 (by decide) ?_
      refine r_putI dX2_clear_29 flX2_30 ⟨_, _, _, rfl, Or.inl rfl⟩ h0 (by decide) rfl rfl rfl ?_
      refine r_aload_n dX2_clear_32 rfl ?_
      refine r_iconst (v := 0) dX2_clear_33 (by decide) ?_
      refine r_putI dX2_clear_34 flX2_34 ⟨_, _, _, rfl, Or.inl rfl⟩ h0 (by decide) rfl rfl rfl ?_
      rw [xu_sv (f := lCl I t 3) (a := t + 7) (k := 5) (by simp [lCl, z5]), xu_sv (f := lCl I t 3) (a := t + 7) (k := 6) (by simp [lCl, z6])]
      exact r_vret dX2_clear_37 rfl rfl rfl
    | succ c ih =>
      intro j hj
      refine r_iload_n dX2_clear_2 rfl ?_
      refine r_iconst (v := 3) dX2_clear_3 (by decide) ?_
      refine r_ic_ge 27 dX2_clear_4 (by decide) (fun h => absurd h (nI_ge (a := j) (b := 3) (by omega) (by omega))) (fun _ => ?_)
      refine r_aload_n dX2_clear_7 rfl ?_
      refine r_getR dX2_clear_8 flX2_17 h0 (by decide) rfl p1 ?_
      refine r_iload_n dX2_clear_11 rfl ?_
      refine r_iconst (v := -1) dX2_clear_12 (by decide) ?_
      refine r_ias dX2_clear_13 h1 (vp_in_nI (by omega) (by omega)) ?_
      refine r_aload_n dX2_clear_14 rfl ?_
      refine r_getR dX2_clear_15 flX2_20 h0 (by decide) rfl p2 ?_
      refine r_iload_n dX2_clear_18 rfl ?_
      refine r_iconst (v := -1) dX2_clear_19 (by decide) ?_
      refine r_ias dX2_clear_20 h2 (vp_in_nI (by omega) (by omega)) ?_
      rw [nI_clamp (by omega), lCl_x]
      refine r_iinc1 (v := 1) dX2_clear_21 (by decide) rfl ?_
      refine r_goto 2 dX2_clear_24 (by decide) ?_
      rw [nI_1]
      exact ih (j + 1) (by omega)
  rw [show (0 : Int32) = nI 0 from rfl]
  have := loop 3 0 (by omega)
  rw [← e0] at this
  exact this
theorem i_tclr {E : xCl} {ex : Bool} {t : Nat} (ht : t ∈ TL) {sh : List (xK × Nat)} (hs : sh[t]? = some (.inl 6, 13)) (h0 : sh[t + 7]? = some (.inl 2, 7)) (h1 : sh[t + 9]? = some (.inr 0, 3)) (h2 : sh[t + 10]? = some (.inr 0, 3)) {I : Nat → Nat → Int32} {J : Nat → Nat → Int64} {P : Nat → Nat → Nat} (p8 : P t 8 = t + 7 + 1) (p1 : P (t + 7) 1 = t + 9 + 1) (p2 : P (t + 7) 2 = t + 10 + 1) (hz : ∀ k, I t k = 0) (z5 : I (t + 7) 5 = 0) (z6 : I (t + 7) 6 = 0) (d : Nat) : xEx E ex (d + 2) yX6_clear [.ref t] (sh, I, J, P) none (sh, lCl I t 3, J, P) := by
  have z2 : ∀ k, lCl I t 3 t k = 0 := fun k => by unfold lCl; rw [if_neg (by omega), hz]
  refine x_enter cqX6_clear [some (.ref t)] rfl (by simp [lg_sl, Value.category]) ?_
  refine r_aload_n dX6_clear_0 rfl ?_
  refine r_iconst (v := 0) dX6_clear_1 (by decide) ?_
  refine r_putI dX6_clear_2 flX6_37 ⟨_, _, _, rfl, Or.inl rfl⟩ hs (by decide) rfl rfl rfl ?_
  rw [xu_sv (hz 3)]
  refine r_aload_n dX6_clear_5 rfl ?_
  refine r_iconst (v := 0) dX6_clear_6 (by decide) ?_
  refine r_putI dX6_clear_7 flX6_41 ⟨_, _, _, rfl, Or.inl rfl⟩ hs (by decide) rfl rfl rfl ?_
  rw [xu_sv (hz 7)]
  refine r_aload_n dX6_clear_10 rfl ?_
  refine r_getR dX6_clear_11 flX6_33 hs (by decide) rfl p8 ?_
  refine r_cV0v dX6_clear_14 vlX6_44 h0 (by simp) (i_lclr ht h0 h1 h2 p1 p2 z5 z6 d) ?_
  refine r_aload_n dX6_clear_17 rfl ?_
  refine r_iconst (v := 0) dX6_clear_18 (by decide) ?_
  refine r_putI dX6_clear_19 flX6_47 ⟨_, _, _, rfl, Or.inl rfl⟩ hs (by decide) rfl rfl rfl ?_
  rw [xu_sv (z2 9)]
  refine r_aload_n dX6_clear_22 rfl ?_
  refine r_iconst (v := 0) dX6_clear_23 (by decide) ?_
  refine r_putI dX6_clear_24 flX6_50 ⟨_, _, _, rfl, Or.inl rfl⟩ hs (by decide) rfl rfl rfl ?_
  rw [xu_sv (z2 10)]
  refine r_aload_n dX6_clear_27 rfl ?_
  refine r_iconst (v := 0) dX6_clear_28 (by decide) ?_
  refine r_putI dX6_clear_29 flX6_53 ⟨_, _, _, rfl, Or.inl rfl⟩ hs (by decide) rfl (by decide) (by decide) ?_
  rw [xu_sv (z2 11)]
  refine r_aload_n dX6_clear_32 rfl ?_
  refine r_iconst (v := 0) dX6_clear_33 (by decide) ?_
  refine r_putI dX6_clear_34 flX6_57 ⟨_, _, _, rfl, Or.inl rfl⟩ hs (by decide) rfl (by decide) (by decide) ?_
  rw [xu_sv (z2 12)]
  exact r_vret dX6_clear_37 rfl rfl rfl
