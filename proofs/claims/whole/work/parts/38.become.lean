/-! become, clear -/
def cpf (V : Nat → Nat → Int32) (f : Nat) (g : Nat → Int32) : Nat → Nat → Int32 := fun f' k => if f' = f then g k else V f' k
theorem xcp_B (I V : Nat → Nat → Int32) {b q : Nat} (hb : b ∈ BR) (hq : q ∈ BR) (hne : q ≠ b) {f : Nat} (h1 : 0 < f) (h2 : f < 12) {sp dp n : Nat} (hs : sp = 0) (hd : dp = 0) (hn : n = bl f) : xcp (wB I b V) (q + f) sp (b + f) dp n = wB I b (cpf V f (I (q + f))) := by
  subst hs; subst hd; subst hn
  funext a k
  simp only [xcp, wB_o I b V (br_br b hb q hq hne f h2)]
  simp only [wB, cpf]
  by_cases h : a = b
  · subst h
    rw [if_neg (by omega)]
    simp only [if_true]
    by_cases hk : 12 ≤ k ∧ k < 16
    · rw [if_pos hk, if_pos hk, if_neg (by omega)]
    · rw [if_neg hk, if_neg hk]
  · simp only [h, if_false]
    by_cases h3 : (b < a ∧ a ≤ b + 11) ∧ k < bl (a - b)
    · rw [if_pos h3, if_pos h3]
      by_cases h4 : a = b + f
      · subst h4
        rw [show b + f - b = f by omega] at h3 ⊢
        rw [if_pos ⟨rfl, by omega, by omega⟩]
        simp
      · rw [if_neg (fun z => h4 z.1), if_neg (fun z => h4 (by omega))]
    · rw [if_neg h3, if_neg h3, if_neg (fun z => h3 ⟨by omega, by rw [z.1, show b + f - b = f by omega]; omega⟩)]
theorem br_r0 : ∀ q ∈ REFS, ∀ b ∈ BR, ¬ (q.1 = b ∧ q.2.1 = 0) := by decide +kernel
theorem Pok.xb {P : Nat → Nat → Nat} (h : Pok P) {b : Nat} (hb : b ∈ BR) (v : Nat) : Pok (xu P b 0 v) := fun q hq => by
  have := br_r0 q hq b hb
  simp only [xu, if_neg this]
  exact h q hq
theorem sBec {I V : Nat → Nat → Int32} {b q : Nat} (hb : b ∈ BR) (hq : q ∈ BR) (hne : q ≠ b) : wB I b (vB I q) = wB I b (xu (xu (xu (xu (cpf (cpf (cpf (cpf (cpf (cpf (cpf (cpf (cpf (cpf (cpf V 1 (I (q + 1))) 2 (I (q + 2))) 3 (I (q + 3))) 4 (I (q + 4))) 5 (I (q + 5))) 6 (I (q + 6))) 7 (I (q + 7))) 8 (I (q + 8))) 9 (I (q + 9))) 10 (I (q + 10))) 11 (I (q + 11))) 12 0 (I q 12)) 13 0 (I q 13)) 14 0 (I q 14)) 15 0 (I q 15)) := by
  refine wB_ext I b (fun f k h1 h2 _ => ?_) (fun f h1 h2 => ?_)
  · match f, h1, h2 with
    | 1, _, _ => simp [cpf, xu, vB]
    | 2, _, _ => simp [cpf, xu, vB]
    | 3, _, _ => simp [cpf, xu, vB]
    | 4, _, _ => simp [cpf, xu, vB]
    | 5, _, _ => simp [cpf, xu, vB]
    | 6, _, _ => simp [cpf, xu, vB]
    | 7, _, _ => simp [cpf, xu, vB]
    | 8, _, _ => simp [cpf, xu, vB]
    | 9, _, _ => simp [cpf, xu, vB]
    | 10, _, _ => simp [cpf, xu, vB]
    | 11, _, _ => simp [cpf, xu, vB]
    | f + 12, _, h2 => omega
  · match f, h1, h2 with
    | 12, _, _ => simp [cpf, xu, vB]
    | 13, _, _ => simp [cpf, xu, vB]
    | 14, _, _ => simp [cpf, xu, vB]
    | 15, _, _ => simp [cpf, xu, vB]
    | f + 16, _, h2 => omega
set_option maxHeartbeats 1000000 in
theorem k_become {E : xCl} {ex : Bool} {I V : Nat → Nat → Int32} {J : Nat → Nat → Int64} {P : Nat → Nat → Nat} (hP : Pok P) {b : Nat} (hb : b ∈ BR) {q t : Nat} (hq : q ∈ BR) (hne : q ≠ b) (ht : t ∈ TL) (hqt : P q 0 = t + 1) (d : Nat) : xEx E ex (d + 1) yX0_become [.ref b, .ref q] (SH, wB I b V, J, P) none (SH, wB I b (vB I q), J, xu P b 0 (t + 1)) := by
  refine x_enter cqX0_become [some (.ref b), some (.ref q)] rfl (by simp [lg_sl, Value.category]) ?_
  refine r_aload_n dX0_become_0 rfl ?_
  refine r_aload_n dX0_become_1 rfl ?_
  refine r_getR dX0_become_2 flX0_49 (br_s _ hq) (by decide) rfl hqt ?_
  refine r_putR dX0_become_5 flX0_49 ⟨_, _, _, rfl, Or.inl rfl⟩ (br_s _ hb) (by decide) rfl rfl ?_
  have hP := hP.xb hb (t + 1)
  refine r_aload_n dX0_become_8 rfl ?_
  refine r_getR dX0_become_9 flX0_9 (br_s _ hq) (by decide) rfl (br_p1 hP _ hq) ?_
  refine r_iconst (v := 0) dX0_become_12 (by decide) ?_
  refine r_aload_n dX0_become_13 rfl ?_
  refine r_getR dX0_become_14 flX0_9 (br_s _ hb) (by decide) rfl (br_p1 hP _ hb) ?_
  refine r_iconst (v := 0) dX0_become_17 (by decide) ?_
  refine r_bipush (v := 6) dX0_become_18 (by decide) ?_
  refine r_acv dX0_become_20 alX0_66 (br_a1 _ hq) (br_a1 _ hb) (by decide) (by decide) (by decide) (by decide) (by decide) (Nat.le_of_ble_eq_true rfl) (xcp_B _ _ hb hq hne (f := 1) (by decide) (by decide) (by decide) (by decide) (by decide)) ?_
  refine r_aload_n dX0_become_23 rfl ?_
  refine r_getR dX0_become_24 flX0_15 (br_s _ hq) (by decide) rfl (br_p2 hP _ hq) ?_
  refine r_iconst (v := 0) dX0_become_27 (by decide) ?_
  refine r_aload_n dX0_become_28 rfl ?_
  refine r_getR dX0_become_29 flX0_15 (br_s _ hb) (by decide) rfl (br_p2 hP _ hb) ?_
  refine r_iconst (v := 0) dX0_become_32 (by decide) ?_
  refine r_bipush (v := 6) dX0_become_33 (by decide) ?_
  refine r_acv dX0_become_35 alX0_66 (br_a2 _ hq) (br_a2 _ hb) (by decide) (by decide) (by decide) (by decide) (by decide) (Nat.le_of_ble_eq_true rfl) (xcp_B _ _ hb hq hne (f := 2) (by decide) (by decide) (by decide) (by decide) (by decide)) ?_
  refine r_aload_n dX0_become_38 rfl ?_
  refine r_getR dX0_become_39 flX0_18 (br_s _ hq) (by decide) rfl (br_p3 hP _ hq) ?_
  refine r_iconst (v := 0) dX0_become_42 (by decide) ?_
  refine r_aload_n dX0_become_43 rfl ?_
  refine r_getR dX0_become_44 flX0_18 (br_s _ hb) (by decide) rfl (br_p3 hP _ hb) ?_
  refine r_iconst (v := 0) dX0_become_47 (by decide) ?_
  refine r_bipush (v := 12) dX0_become_48 (by decide) ?_
  refine r_acv dX0_become_50 alX0_66 (br_a3 _ hq) (br_a3 _ hb) (by decide) (by decide) (by decide) (by decide) (by decide) (Nat.le_of_ble_eq_true rfl) (xcp_B _ _ hb hq hne (f := 3) (by decide) (by decide) (by decide) (by decide) (by decide)) ?_
  refine r_aload_n dX0_become_53 rfl ?_
  refine r_getR dX0_become_54 flX0_21 (br_s _ hq) (by decide) rfl (br_p4 hP _ hq) ?_
  refine r_iconst (v := 0) dX0_become_57 (by decide) ?_
  refine r_aload_n dX0_become_58 rfl ?_
  refine r_getR dX0_become_59 flX0_21 (br_s _ hb) (by decide) rfl (br_p4 hP _ hb) ?_
  refine r_iconst (v := 0) dX0_become_62 (by decide) ?_
  refine r_bipush (v := 12) dX0_become_63 (by decide) ?_
  refine r_acv dX0_become_65 alX0_66 (br_a4 _ hq) (br_a4 _ hb) (by decide) (by decide) (by decide) (by decide) (by decide) (Nat.le_of_ble_eq_true rfl) (xcp_B _ _ hb hq hne (f := 4) (by decide) (by decide) (by decide) (by decide) (by decide)) ?_
  refine r_aload_n dX0_become_68 rfl ?_
  refine r_getR dX0_become_69 flX0_24 (br_s _ hq) (by decide) rfl (br_p5 hP _ hq) ?_
  refine r_iconst (v := 0) dX0_become_72 (by decide) ?_
  refine r_aload_n dX0_become_73 rfl ?_
  refine r_getR dX0_become_74 flX0_24 (br_s _ hb) (by decide) rfl (br_p5 hP _ hb) ?_
  refine r_iconst (v := 0) dX0_become_77 (by decide) ?_
  refine r_bipush (v := 12) dX0_become_78 (by decide) ?_
  refine r_acv dX0_become_80 alX0_66 (br_a5 _ hq) (br_a5 _ hb) (by decide) (by decide) (by decide) (by decide) (by decide) (Nat.le_of_ble_eq_true rfl) (xcp_B _ _ hb hq hne (f := 5) (by decide) (by decide) (by decide) (by decide) (by decide)) ?_
  refine r_aload_n dX0_become_83 rfl ?_
  refine r_getR dX0_become_84 flX0_27 (br_s _ hq) (by decide) rfl (br_p6 hP _ hq) ?_
  refine r_iconst (v := 0) dX0_become_87 (by decide) ?_
  refine r_aload_n dX0_become_88 rfl ?_
  refine r_getR dX0_become_89 flX0_27 (br_s _ hb) (by decide) rfl (br_p6 hP _ hb) ?_
  refine r_iconst (v := 0) dX0_become_92 (by decide) ?_
  refine r_bipush (v := 12) dX0_become_93 (by decide) ?_
  refine r_acv dX0_become_95 alX0_66 (br_a6 _ hq) (br_a6 _ hb) (by decide) (by decide) (by decide) (by decide) (by decide) (Nat.le_of_ble_eq_true rfl) (xcp_B _ _ hb hq hne (f := 6) (by decide) (by decide) (by decide) (by decide) (by decide)) ?_
  refine r_aload_n dX0_become_98 rfl ?_
  refine r_getR dX0_become_99 flX0_30 (br_s _ hq) (by decide) rfl (br_p7 hP _ hq) ?_
  refine r_iconst (v := 0) dX0_become_102 (by decide) ?_
  refine r_aload_n dX0_become_103 rfl ?_
  refine r_getR dX0_become_104 flX0_30 (br_s _ hb) (by decide) rfl (br_p7 hP _ hb) ?_
  refine r_iconst (v := 0) dX0_become_107 (by decide) ?_
  refine r_bipush (v := 12) dX0_become_108 (by decide) ?_
  refine r_acv dX0_become_110 alX0_66 (br_a7 _ hq) (br_a7 _ hb) (by decide) (by decide) (by decide) (by decide) (by decide) (Nat.le_of_ble_eq_true rfl) (xcp_B _ _ hb hq hne (f := 7) (by decide) (by decide) (by decide) (by decide) (by decide)) ?_
  refine r_aload_n dX0_become_113 rfl ?_
  refine r_getR dX0_become_114 flX0_33 (br_s _ hq) (by decide) rfl (br_p8 hP _ hq) ?_
  refine r_iconst (v := 0) dX0_become_117 (by decide) ?_
  refine r_aload_n dX0_become_118 rfl ?_
  refine r_getR dX0_become_119 flX0_33 (br_s _ hb) (by decide) rfl (br_p8 hP _ hb) ?_
  refine r_iconst (v := 0) dX0_become_122 (by decide) ?_
  refine r_bipush (v := 12) dX0_become_123 (by decide) ?_
  refine r_acv dX0_become_125 alX0_66 (br_a8 _ hq) (br_a8 _ hb) (by decide) (by decide) (by decide) (by decide) (by decide) (Nat.le_of_ble_eq_true rfl) (xcp_B _ _ hb hq hne (f := 8) (by decide) (by decide) (by decide) (by decide) (by decide)) ?_
  refine r_aload_n dX0_become_128 rfl ?_
  refine r_getR dX0_become_129 flX0_36 (br_s _ hq) (by decide) rfl (br_p9 hP _ hq) ?_
  refine r_iconst (v := 0) dX0_become_132 (by decide) ?_
  refine r_aload_n dX0_become_133 rfl ?_
  refine r_getR dX0_become_134 flX0_36 (br_s _ hb) (by decide) rfl (br_p9 hP _ hb) ?_
  refine r_iconst (v := 0) dX0_become_137 (by decide) ?_
  refine r_bipush (v := 12) dX0_become_138 (by decide) ?_
  refine r_acv dX0_become_140 alX0_66 (br_a9 _ hq) (br_a9 _ hb) (by decide) (by decide) (by decide) (by decide) (by decide) (Nat.le_of_ble_eq_true rfl) (xcp_B _ _ hb hq hne (f := 9) (by decide) (by decide) (by decide) (by decide) (by decide)) ?_
  refine r_aload_n dX0_become_143 rfl ?_
  refine r_getR dX0_become_144 flX0_39 (br_s _ hq) (by decide) rfl (br_p10 hP _ hq) ?_
  refine r_iconst (v := 0) dX0_become_147 (by decide) ?_
  refine r_aload_n dX0_become_148 rfl ?_
  refine r_getR dX0_become_149 flX0_39 (br_s _ hb) (by decide) rfl (br_p10 hP _ hb) ?_
  refine r_iconst (v := 0) dX0_become_152 (by decide) ?_
  refine r_bipush (v := 12) dX0_become_153 (by decide) ?_
  refine r_acv dX0_become_155 alX0_66 (br_a10 _ hq) (br_a10 _ hb) (by decide) (by decide) (by decide) (by decide) (by decide) (Nat.le_of_ble_eq_true rfl) (xcp_B _ _ hb hq hne (f := 10) (by decide) (by decide) (by decide) (by decide) (by decide)) ?_
  refine r_aload_n dX0_become_158 rfl ?_
  refine r_getR dX0_become_159 flX0_42 (br_s _ hq) (by decide) rfl (br_p11 hP _ hq) ?_
  refine r_iconst (v := 0) dX0_become_162 (by decide) ?_
  refine r_aload_n dX0_become_163 rfl ?_
  refine r_getR dX0_become_164 flX0_42 (br_s _ hb) (by decide) rfl (br_p11 hP _ hb) ?_
  refine r_iconst (v := 0) dX0_become_167 (by decide) ?_
  refine r_bipush (v := 8) dX0_become_168 (by decide) ?_
  refine r_acv dX0_become_170 alX0_66 (br_a11 _ hq) (br_a11 _ hb) (by decide) (by decide) (by decide) (by decide) (by decide) (Nat.le_of_ble_eq_true rfl) (xcp_B _ _ hb hq hne (f := 11) (by decide) (by decide) (by decide) (by decide) (by decide)) ?_
  refine r_aload_n dX0_become_173 rfl ?_
  refine r_aload_n dX0_become_174 rfl ?_
  refine r_getIv dX0_become_175 flX0_53 (br_s _ hq) (by decide) rfl ((wB_o _ _ _ (br_br _ hb _ hq hne 0 (by decide)) _)) ?_
  refine r_putIv dX0_become_178 flX0_53 ⟨_, _, _, rfl, Or.inl rfl⟩ (br_s _ hb) (by decide) rfl rfl rfl (wB_xi _ _ _ (by decide) _) ?_
  refine r_aload_n dX0_become_181 rfl ?_
  refine r_aload_n dX0_become_182 rfl ?_
  refine r_getIv dX0_become_183 flX0_57 (br_s _ hq) (by decide) rfl ((wB_o _ _ _ (br_br _ hb _ hq hne 0 (by decide)) _)) ?_
  refine r_putIv dX0_become_186 flX0_57 ⟨_, _, _, rfl, Or.inl rfl⟩ (br_s _ hb) (by decide) rfl rfl rfl (wB_xi _ _ _ (by decide) _) ?_
  refine r_aload_n dX0_become_189 rfl ?_
  refine r_aload_n dX0_become_190 rfl ?_
  refine r_getIv dX0_become_191 flX0_60 (br_s _ hq) (by decide) rfl ((wB_o _ _ _ (br_br _ hb _ hq hne 0 (by decide)) _)) ?_
  refine r_putIv dX0_become_194 flX0_60 ⟨_, _, _, rfl, Or.inl rfl⟩ (br_s _ hb) (by decide) rfl rfl rfl (wB_xi _ _ _ (by decide) _) ?_
  refine r_aload_n dX0_become_197 rfl ?_
  refine r_aload_n dX0_become_198 rfl ?_
  refine r_getIv dX0_become_199 flX0_63 (br_s _ hq) (by decide) rfl ((wB_o _ _ _ (br_br _ hb _ hq hne 0 (by decide)) _)) ?_
  refine r_putIv dX0_become_202 flX0_63 ⟨_, _, _, rfl, Or.inl rfl⟩ (br_s _ hb) (by decide) rfl rfl rfl (wB_xi _ _ _ (by decide) _) ?_
  exact r_vret dX0_become_205 rfl rfl (by rw [sBec (V := V) hb hq hne]; rfl)
def sZo (V : Nat → Nat → Int32) : Nat → Nat → Nat → Int32
  | 0 => V
  | j + 1 => xu (sZo V j) 11 j 0
def sClr (V : Nat → Nat → Int32) : Nat → Nat → Int32 := xu (xu (xu (xu (sZo V 8) 12 0 0) 13 0 0) 14 0 0) 15 0 0
set_option maxHeartbeats 1000000 in
theorem l_clear {E : xCl} {ex : Bool} {I V : Nat → Nat → Int32} {J : Nat → Nat → Int64} {P : Nat → Nat → Nat} (hP : Pok P) {b : Nat} (hb : b ∈ BR) (t : Nat) (d : Nat) : ∀ j, j ≤ 8 → xR (xEx E ex (d + 0)) ex none yX0_clear cX0_clear none 7 [some (.ref b), some (.ref t), some (.int (nI j))] [] (SH, wB I b (sZo V j), J, P) (xEq none (SH, wB I b (sClr V), J, P)) := by
  refine r_for (fun j => xR (xEx E ex (d + 0)) ex none yX0_clear cX0_clear none 7 [some (.ref b), some (.ref t), some (.int (nI j))] [] (SH, wB I b (sZo V j), J, P) (xEq none (SH, wB I b (sClr V), J, P))) _ ?_ ?_
  · intro j hj ih
    refine r_iload_n dX0_clear_7 rfl ?_
    refine r_bipush (v := 8) dX0_clear_8 (by decide) ?_
    refine r_ic_ge 26 dX0_clear_10 (by decide) (fun c10 => ?_) (fun c10 => ?_)
    · exact absurd c10 (lt8 hj)
    · refine r_aload_n dX0_clear_13 rfl ?_
      refine r_getR dX0_clear_14 flX0_42 (br_s _ hb) (by decide) rfl (br_p11 hP _ hb) ?_
      refine r_iload_n dX0_clear_17 rfl ?_
      refine r_iconst (v := 0) dX0_clear_18 (by decide) ?_
      refine r_iasv dX0_clear_19 (br_a11 _ hb) (im8 hj (Nat.le_refl 8)) ((congrArg (fun z => xu _ _ z _) (cl8 hj (Nat.le_refl 8))).trans (wB_xa (f := 11) _ _ _ (by decide) (by decide) hj _)) ?_
      refine r_iinc2 (v := 1) dX0_clear_20 (by decide) rfl ?_
      refine r_goto 7 dX0_clear_23 (by decide) ?_
      rw [nI_1]; exact ih
  · refine r_iload_n dX0_clear_7 rfl ?_
    refine r_bipush (v := 8) dX0_clear_8 (by decide) ?_
    refine r_ic_ge 26 dX0_clear_10 (by decide) (fun c10 => ?_) (fun c10 => ?_)
    · refine r_aload_n dX0_clear_26 rfl ?_
      refine r_iconst (v := 0) dX0_clear_27 (by decide) ?_
      refine r_putIv dX0_clear_28 flX0_53 ⟨_, _, _, rfl, Or.inl rfl⟩ (br_s _ hb) (by decide) rfl rfl rfl (wB_xi _ _ _ (by decide) _) ?_
      refine r_aload_n dX0_clear_31 rfl ?_
      refine r_iconst (v := 0) dX0_clear_32 (by decide) ?_
      refine r_putIv dX0_clear_33 flX0_57 ⟨_, _, _, rfl, Or.inl rfl⟩ (br_s _ hb) (by decide) rfl rfl rfl (wB_xi _ _ _ (by decide) _) ?_
      refine r_aload_n dX0_clear_36 rfl ?_
      refine r_iconst (v := 0) dX0_clear_37 (by decide) ?_
      refine r_putIv dX0_clear_38 flX0_60 ⟨_, _, _, rfl, Or.inl rfl⟩ (br_s _ hb) (by decide) rfl rfl rfl (wB_xi _ _ _ (by decide) _) ?_
      refine r_aload_n dX0_clear_41 rfl ?_
      refine r_iconst (v := 0) dX0_clear_42 (by decide) ?_
      refine r_putIv dX0_clear_43 flX0_63 ⟨_, _, _, rfl, Or.inl rfl⟩ (br_s _ hb) (by decide) rfl rfl rfl (wB_xi _ _ _ (by decide) _) ?_
      exact r_vret dX0_clear_46 rfl rfl rfl
    · exact absurd (by decide) c10
set_option maxHeartbeats 1000000 in
theorem k_clear {E : xCl} {ex : Bool} {I V : Nat → Nat → Int32} {J : Nat → Nat → Int64} {P : Nat → Nat → Nat} (hP : Pok P) {b : Nat} (hb : b ∈ BR) (t : Nat) (d : Nat) : xEx E ex (d + 1) yX0_clear [.ref b, .ref t] (SH, wB I b V, J, P) none (SH, wB I b (sClr V), J, xu P b 0 (t + 1)) := by
  refine x_enter cqX0_clear [some (.ref b), some (.ref t), none] rfl (by simp [lg_sl, Value.category]) ?_
  refine r_aload_n dX0_clear_0 rfl ?_
  refine r_aload_n dX0_clear_1 rfl ?_
  refine r_putR dX0_clear_2 flX0_49 ⟨_, _, _, rfl, Or.inl rfl⟩ (br_s _ hb) (by decide) rfl rfl ?_
  refine r_iconst (v := 0) dX0_clear_5 (by decide) ?_
  refine r_istore_n2 dX0_clear_6 rfl ?_
  exact l_clear (hP.xb hb _) hb t d 0 (by decide)
