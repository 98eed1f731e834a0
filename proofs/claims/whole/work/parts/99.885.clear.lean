/-! clearing, over any cells that hold what it needs -/
/-- the laws of a tale cleared -/
def lCl (I : Nat → Nat → Int32) (t j : Nat) : Nat → Nat → Int32 := fun a k => if (a = t + 9 ∨ a = t + 10) ∧ k < j then -1 else I a k
theorem lCl_x (I : Nat → Nat → Int32) (t j : Nat) : xu (xu (lCl I t j) (t + 9) j (-1)) (t + 10) j (-1) = lCl I t (j + 1) := by
  funext a k
  unfold xu lCl
  by_cases e1 : a = t + 10 ∧ k = j
  · rw [if_pos e1, if_pos (by omega)]
  · rw [if_neg e1]
    by_cases e2 : a = t + 9 ∧ k = j
    · rw [if_pos e2, if_pos (by omega)]
    · rw [if_neg e2]
      by_cases e3 : (a = t + 9 ∨ a = t + 10) ∧ k < j
      · rw [if_pos e3, if_pos (by omega)]
      · rw [if_neg e3, if_neg (by omega)]
theorem xu_sv {α : Type} {f : Nat → Nat → α} {a k : Nat} {v : α} (h : f a k = v) : xu f a k v = f := by
  funext a' k'
  unfold xu
  split
  · rename_i e; rw [e.1, e.2, h]
  · rfl
theorem i_lclr {E : xCl} {ex : Bool} {t : Nat} (ht : t ∈ TL) {sh : List (xK × Nat)} (h0 : sh[t + 7]? = some (.inl 2, 7)) (h1 : sh[t + 9]? = some (.inr 0, 3)) (h2 : sh[t + 10]? = some (.inr 0, 3)) {I : Nat → Nat → Int32} {J : Nat → Nat → Int64} {P : Nat → Nat → Nat} (p1 : P (t + 7) 1 = t + 9 + 1) (p2 : P (t + 7) 2 = t + 10 + 1) (z5 : I (t + 7) 5 = 0) (z6 : I (t + 7) 6 = 0) (d : Nat) : xEx E ex (d + 1) yX2_clear [.ref (t + 7)] (sh, I, J, P) none (sh, lCl I t 3, J, P) := by
  refine x_enter cqX2_clear [some (.ref (t + 7)), none] rfl (by simp [lg_sl, Value.category]) ?_
  refine r_iconst (v := 0) dX2_clear_0 (by decide) ?_
  refine r_istore_n1 dX2_clear_1 rfl ?_
  have e0 : I = lCl I t 0 := by funext a k; simp [lCl]
  have loop : ∀ c j, j + c = 3 → xR (xEx E ex d) ex none yX2_clear cX2_clear none 2 [some (.ref (t + 7)), some (.int (nI j))] [] (sh, lCl I t j, J, P) (xEq none (sh, lCl I t 3, J, P)) := by
    intro c
    induction c with
    | zero =>
      intro j hj
      obtain rfl : j = 3 := by omega
      refine r_iload_n dX2_clear_2 rfl ?_
      refine r_iconst (v := 3) dX2_clear_3 (by decide) ?_
      refine r_ic_ge 27 dX2_clear_4 (by decide) (fun _ => ?_) (fun h => absurd (show (3 : Int32) ≤ nI 3 by decide) h)
      refine r_aload_n dX2_clear_27 rfl ?_
      refine r_iconst (v := 0) dX2_clear_28 (by decide) ?_
      refine r_putI dX2_clear_29 flX2_30 ⟨_, _, _, rfl, Or.inl rfl⟩ h0 (by decide) rfl rfl rfl ?_
      refine r_aload_n dX2_clear_32 rfl ?_
      refine r_iconst (v := 0) dX2_clear_33 (by decide) ?_
      refine r_putI dX2_clear_34 flX2_34 ⟨_, _, _, rfl, Or.inl rfl⟩ h0 (by decide) rfl rfl rfl ?_
      rw [xu_sv (f := lCl I t 3) (a := t + 7) (k := 5) (by simp [lCl, z5]), xu_sv (f := lCl I t 3) (a := t + 7) (k := 6) (by simp [lCl, z6])]
      exact r_vret dX2_clear_37 rfl rfl rfl
    | succ c ih =>
      intro j hj
      refine r_iload_n dX2_clear_2 rfl ?_
      refine r_iconst (v := 3) dX2_clear_3 (by decide) ?_
      refine r_ic_ge 27 dX2_clear_4 (by decide) (fun h => absurd h (nI_ge (a := j) (b := 3) (by omega) (by omega))) (fun _ => ?_)
      refine r_aload_n dX2_clear_7 rfl ?_
      refine r_getR dX2_clear_8 flX2_17 h0 (by decide) rfl p1 ?_
      refine r_iload_n dX2_clear_11 rfl ?_
      refine r_iconst (v := -1) dX2_clear_12 (by decide) ?_
      refine r_ias dX2_clear_13 h1 (vp_in_nI (by omega) (by omega)) ?_
      refine r_aload_n dX2_clear_14 rfl ?_
      refine r_getR dX2_clear_15 flX2_20 h0 (by decide) rfl p2 ?_
      refine r_iload_n dX2_clear_18 rfl ?_
      refine r_iconst (v := -1) dX2_clear_19 (by decide) ?_
      refine r_ias dX2_clear_20 h2 (vp_in_nI (by omega) (by omega)) ?_
      rw [nI_clamp (by omega), lCl_x]
      refine r_iinc1 (v := 1) dX2_clear_21 (by decide) rfl ?_
      refine r_goto 2 dX2_clear_24 (by decide) ?_
      rw [nI_1]
      exact ih (j + 1) (by omega)
  rw [show (0 : Int32) = nI 0 from rfl]
  have := loop 3 0 (by omega)
  rw [← e0] at this
  exact this
theorem i_tclr {E : xCl} {ex : Bool} {t : Nat} (ht : t ∈ TL) {sh : List (xK × Nat)} (hs : sh[t]? = some (.inl 6, 13)) (h0 : sh[t + 7]? = some (.inl 2, 7)) (h1 : sh[t + 9]? = some (.inr 0, 3)) (h2 : sh[t + 10]? = some (.inr 0, 3)) {I : Nat → Nat → Int32} {J : Nat → Nat → Int64} {P : Nat → Nat → Nat} (p8 : P t 8 = t + 7 + 1) (p1 : P (t + 7) 1 = t + 9 + 1) (p2 : P (t + 7) 2 = t + 10 + 1) (hz : ∀ k, I t k = 0) (z5 : I (t + 7) 5 = 0) (z6 : I (t + 7) 6 = 0) (d : Nat) : xEx E ex (d + 2) yX6_clear [.ref t] (sh, I, J, P) none (sh, lCl I t 3, J, P) := by
  have z2 : ∀ k, lCl I t 3 t k = 0 := fun k => by unfold lCl; rw [if_neg (by omega), hz]
  refine x_enter cqX6_clear [some (.ref t)] rfl (by simp [lg_sl, Value.category]) ?_
  refine r_aload_n dX6_clear_0 rfl ?_
  refine r_iconst (v := 0) dX6_clear_1 (by decide) ?_
  refine r_putI dX6_clear_2 flX6_40 ⟨_, _, _, rfl, Or.inl rfl⟩ hs (by decide) rfl rfl rfl ?_
  rw [xu_sv (hz 3)]
  refine r_aload_n dX6_clear_5 rfl ?_
  refine r_iconst (v := 0) dX6_clear_6 (by decide) ?_
  refine r_putI dX6_clear_7 flX6_44 ⟨_, _, _, rfl, Or.inl rfl⟩ hs (by decide) rfl rfl rfl ?_
  rw [xu_sv (hz 7)]
  refine r_aload_n dX6_clear_10 rfl ?_
  refine r_getR dX6_clear_11 flX6_33 hs (by decide) rfl p8 ?_
  refine r_cV0v dX6_clear_14 vlX6_47 h0 (by simp) (i_lclr ht h0 h1 h2 p1 p2 z5 z6 d) ?_
  refine r_aload_n dX6_clear_17 rfl ?_
  refine r_iconst (v := 0) dX6_clear_18 (by decide) ?_
  refine r_putI dX6_clear_19 flX6_48 ⟨_, _, _, rfl, Or.inl rfl⟩ hs (by decide) rfl rfl rfl ?_
  rw [xu_sv (z2 9)]
  refine r_aload_n dX6_clear_22 rfl ?_
  refine r_iconst (v := 0) dX6_clear_23 (by decide) ?_
  refine r_putI dX6_clear_24 flX6_51 ⟨_, _, _, rfl, Or.inl rfl⟩ hs (by decide) rfl rfl rfl ?_
  rw [xu_sv (z2 10)]
  refine r_aload_n dX6_clear_27 rfl ?_
  refine r_iconst (v := 0) dX6_clear_28 (by decide) ?_
  refine r_putI dX6_clear_29 flX6_54 ⟨_, _, _, rfl, Or.inl rfl⟩ hs (by decide) rfl (by decide) (by decide) ?_
  rw [xu_sv (z2 11)]
  refine r_aload_n dX6_clear_32 rfl ?_
  refine r_iconst (v := 0) dX6_clear_33 (by decide) ?_
  refine r_putI dX6_clear_34 flX6_58 ⟨_, _, _, rfl, Or.inl rfl⟩ hs (by decide) rfl (by decide) (by decide) ?_
  rw [xu_sv (z2 12)]
  exact r_vret dX6_clear_37 rfl rfl rfl
theorem lCl_o {I : Nat → Nat → Int32} {t j a : Nat} (h : ¬ (a = t + 9 ∨ a = t + 10)) (k : Nat) : lCl I t j a k = I a k := by unfold lCl; rw [if_neg (fun z => h z.1)]
theorem i_bclr {E : xCl} {ex : Bool} {b t : Nat} (hb : b ∈ BR) {sh : List (xK × Nat)} (hs : sh[b]? = some (.inl 0, 16)) (h1 : sh[b + 11]? = some (.inr 0, 8)) {I : Nat → Nat → Int32} {J : Nat → Nat → Int64} {P : Nat → Nat → Nat} (p1 : P b 11 = b + 11 + 1) (hz : ∀ k, I b k = 0) (hz2 : ∀ k, I (b + 11) k = 0) (d : Nat) : xEx E ex (d + 1) yX0_clear [.ref b, .ref t] (sh, I, J, P) none (sh, I, J, xu P b 0 (t + 1)) := by
  have p2 : xu P b 0 (t + 1) b 11 = b + 11 + 1 := (xu_ne (by omega)).trans p1
  refine x_enter cqX0_clear [some (.ref b), some (.ref t), none] rfl (by simp [lg_sl, Value.category]) ?_
  refine r_aload_n dX0_clear_0 rfl ?_
  refine r_aload_n dX0_clear_1 rfl ?_
  refine r_putR dX0_clear_2 flX0_49 ⟨_, _, _, rfl, Or.inl rfl⟩ hs (by decide) rfl rfl ?_
  refine r_iconst (v := 0) dX0_clear_5 (by decide) ?_
  refine r_istore_n2 dX0_clear_6 rfl ?_
  have loop : ∀ c j, j + c = 8 → xR (xEx E ex d) ex none yX0_clear cX0_clear none 7 [some (.ref b), some (.ref t), some (.int (nI j))] [] (sh, I, J, xu P b 0 (t + 1)) (xEq none (sh, I, J, xu P b 0 (t + 1))) := by
    intro c
    induction c with
    | zero =>
      intro j hj
      obtain rfl : j = 8 := by omega
      refine r_iload_n dX0_clear_7 rfl ?_
      refine r_bipush (v := 8) dX0_clear_8 (by decide) ?_
      refine r_ic_ge 26 dX0_clear_10 (by decide) (fun _ => ?_) (fun h => absurd (show (8 : Int32) ≤ nI 8 by decide) h)
      refine r_aload_n dX0_clear_26 rfl ?_
      refine r_iconst (v := 0) dX0_clear_27 (by decide) ?_
      refine r_putI dX0_clear_28 flX0_53 ⟨_, _, _, rfl, Or.inl rfl⟩ hs (by decide) rfl rfl rfl ?_
      rw [xu_sv (hz 12)]
      refine r_aload_n dX0_clear_31 rfl ?_
      refine r_iconst (v := 0) dX0_clear_32 (by decide) ?_
      refine r_putI dX0_clear_33 flX0_57 ⟨_, _, _, rfl, Or.inl rfl⟩ hs (by decide) rfl rfl rfl ?_
      rw [xu_sv (hz 13)]
      refine r_aload_n dX0_clear_36 rfl ?_
      refine r_iconst (v := 0) dX0_clear_37 (by decide) ?_
      refine r_putI dX0_clear_38 flX0_60 ⟨_, _, _, rfl, Or.inl rfl⟩ hs (by decide) rfl rfl rfl ?_
      rw [xu_sv (hz 14)]
      refine r_aload_n dX0_clear_41 rfl ?_
      refine r_iconst (v := 0) dX0_clear_42 (by decide) ?_
      refine r_putI dX0_clear_43 flX0_63 ⟨_, _, _, rfl, Or.inl rfl⟩ hs (by decide) rfl rfl rfl ?_
      rw [xu_sv (hz 15)]
      exact r_vret dX0_clear_46 rfl rfl rfl
    | succ c ih =>
      intro j hj
      refine r_iload_n dX0_clear_7 rfl ?_
      refine r_bipush (v := 8) dX0_clear_8 (by decide) ?_
      refine r_ic_ge 26 dX0_clear_10 (by decide) (fun h => absurd h (nI_ge (a := j) (b := 8) (by omega) (by omega))) (fun _ => ?_)
      refine r_aload_n dX0_clear_13 rfl ?_
      refine r_getR dX0_clear_14 flX0_42 hs (by decide) rfl p2 ?_
      refine r_iload_n dX0_clear_17 rfl ?_
      refine r_iconst (v := 0) dX0_clear_18 (by decide) ?_
      refine r_ias dX0_clear_19 h1 (vp_in_nI (by omega) (by omega)) ?_
      rw [xu_sv (hz2 _)]
      refine r_iinc2 (v := 1) dX0_clear_20 (by decide) rfl ?_
      refine r_goto 7 dX0_clear_23 (by decide) ?_
      rw [nI_1]
      exact ih (j + 1) (by omega)
  rw [show (0 : Int32) = nI 0 from rfl]
  exact loop 8 0 (by omega)
