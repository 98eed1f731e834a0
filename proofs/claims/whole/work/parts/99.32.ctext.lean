/-! text of the program, whole -/
theorem p05 : ∀ q ∈ REFS, ¬ (q.1 = 0 ∧ q.2.1 = 5) ∧ ¬ (q.1 = 2 ∧ q.2.1 = 2) := by decide +kernel
theorem Pok.x05 {P : Nat → Nat → Nat} (h : Pok P) (v : Nat) : Pok (xu P 0 5 v) := fun q hq => (xu_ne (p05 q hq).1).trans (h q hq)
theorem Pok.x22 {P : Nat → Nat → Nat} (h : Pok P) (v : Nat) : Pok (xu P 2 2 v) := fun q hq => (xu_ne (p05 q hq).2).trans (h q hq)
def kC (t : Nat) (I : Nat → Nat → Int32) : Nat → Nat → Int32 := fun a q => if 500 ≤ a then I (t + (a - 500)) q else I a q
theorem uC_id {t : Nat} (ht : t ∈ TL) (I : Nat → Nat → Int32) : uC t (kC t I) I = I := by
  funext a q
  simp only [uC, kC]
  by_cases h : t ≤ a ∧ a < t + 13
  · rw [if_pos h, if_pos (by omega), show t + (500 + (a - t) - 500) = a by omega]
  · rw [if_neg h]
    by_cases h2 : a = 1 ∨ a = 2 ∨ (16 ≤ a ∧ a ≤ 30)
    · rw [if_pos h2, if_neg (by omega)]
    · rw [if_neg h2]
theorem uC_xo {t : Nat} {K I : Nat → Nat → Int32} {b : Nat} (h : ¬ (t ≤ b ∧ b < t + 13)) (h2 : ¬ (b = 1 ∨ b = 2 ∨ (16 ≤ b ∧ b ≤ 30))) (q : Nat) (v : Int32) : xu (uC t K I) b q v = uC t K (xu I b q v) := by
  funext a k
  simp only [xu, uC]
  by_cases e : t ≤ a ∧ a < t + 13
  · rw [if_pos e, if_pos e, if_neg (fun z => h (by rw [← z.1]; exact e))]
  · rw [if_neg e, if_neg e]
    by_cases e2 : a = 1 ∨ a = 2 ∨ (16 ≤ a ∧ a ≤ 30)
    · rw [if_pos e2, if_pos e2, if_neg (fun z => h2 (by rw [← z.1]; exact e2))]
    · rw [if_neg e2, if_neg e2]
theorem uC_x0 {t : Nat} (ht : t ∈ TL) {K I : Nat → Nat → Int32} (q : Nat) (v : Int32) : xu (uC t K I) 0 q v = uC t K (xu I 0 q v) := uC_xo (by have := tl_c ht; omega) (by omega) q v
theorem k_fgt {E : xCl} {ex : Bool} {I : Nat → Nat → Int32} {J : Nat → Nat → Int64} {P : Nat → Nat → Nat} (d : Nat) : xEx E ex (d + 1) yX10_forgetActs [.ref 0] (SH, I, J, P) none (SH, xu I 0 13 0, J, P) := by
  refine x_enter cqX10_forgetActs [some (.ref 0)] rfl (by simp [lg_sl, Value.category]) ?_
  refine r_aload_n dX10_forgetActs_0 rfl ?_
  refine r_iconst (v := 0) dX10_forgetActs_1 (by decide) ?_
  refine r_putI dX10_forgetActs_2 flX10_400 ⟨_, _, _, rfl, Or.inl rfl⟩ sh_0 (by decide) rfl rfl rfl ?_
  exact r_vret dX10_forgetActs_5 rfl rfl rfl
set_option maxHeartbeats 1000000 in
theorem k_tkt {E : xCl} {ex : Bool} {A : Nat → Nat → Int32} {J : Nat → Nat → Int64} {P : Nat → Nat → Nat} (hP : Pok P) {t t2 : Nat} (ht : t ∈ TL) (ht2 : t2 ∈ TL) (h5 : P 0 5 = t + 1) (h22 : P 2 2 = t2 + 1) (h16 : P 16 0 = t2 + 1) (d : Nat) : xEx E ex (d + 2) yX10_takeTold [.ref 0] (SH, A, J, P) none (SH, (xu (xu (xu (xu (wB (wB A 44 (vB A 16)) 56 (vB A 16)) 0 9 0) 0 13 0) 93 4 0) 93 5 (-1)), J, (xu (xu (xu (xu P 0 5 (t2 + 1)) 2 2 (t + 1)) 44 0 (t2 + 1)) 56 0 (t2 + 1))) := by
  have hP1 := hP.x05 (t2 + 1)
  have hP2 := hP1.x22 (t + 1)
  have hP3 := hP2.xb hb44 (t2 + 1)
  have hP4 := hP3.xb hb56 (t2 + 1)
  have hb1 := k_become (E := E) (ex := ex) (I := A) (V := vB A 44) (J := J) hP2 hb44 hb16 (by decide) ht2 ((xu_ne (by omega)).trans ((xu_ne (by omega)).trans h16)) d
  rw [wB_vB] at hb1
  have hb2 := k_become (E := E) (ex := ex) (I := wB A 44 (vB A 16)) (V := vB (wB A 44 (vB A 16)) 56) (J := J) hP3 hb56 hb44 (by decide) ht2 (xu_s _ _ _ _) d
  rw [wB_vB, wB_vw] at hb2
  refine x_enter cqX10_takeTold [some (.ref 0), none] rfl (by simp [lg_sl, Value.category]) ?_
  refine r_aload_n dX10_takeTold_0 rfl ?_
  refine r_getR dX10_takeTold_1 flX10_29 sh_0 (by decide) rfl h5 ?_
  refine r_astore_n1 dX10_takeTold_4 rfl ?_
  refine r_aload_n dX10_takeTold_5 rfl ?_
  refine r_aload_n dX10_takeTold_6 rfl ?_
  refine r_getR dX10_takeTold_7 flX10_22 sh_0 (by decide) rfl (pf_0_4 hP) ?_
  refine r_getR dX10_takeTold_10 flX10_115 sh_2 (by decide) rfl h22 ?_
  refine r_putR dX10_takeTold_13 flX10_29 ⟨_, _, _, rfl, Or.inl rfl⟩ sh_0 (by decide) rfl rfl ?_
  have hP := hP1
  refine r_aload_n dX10_takeTold_16 rfl ?_
  refine r_getR dX10_takeTold_17 flX10_22 sh_0 (by decide) rfl (pf_0_4 hP) ?_
  refine r_aload_n dX10_takeTold_20 rfl ?_
  refine r_putR dX10_takeTold_21 flX10_115 ⟨_, _, _, rfl, Or.inl rfl⟩ sh_2 (by decide) rfl rfl ?_
  have hP := hP2
  refine r_aload_n dX10_takeTold_24 rfl ?_
  refine r_getR dX10_takeTold_25 flX10_38 sh_0 (by decide) rfl (pf_0_6 hP) ?_
  refine r_aload_n dX10_takeTold_28 rfl ?_
  refine r_getR dX10_takeTold_29 flX10_22 sh_0 (by decide) rfl (pf_0_4 hP) ?_
  refine r_getR dX10_takeTold_32 flX10_116 sh_2 (by decide) rfl (pf_2_3 hP) ?_
  refine r_cV1v dX10_takeTold_35 vlX10_119 (br_s 44 hb44) (Nat.le_of_ble_eq_true rfl) hb1 ?_
  have hP := hP3
  refine r_aload_n dX10_takeTold_38 rfl ?_
  refine r_getR dX10_takeTold_39 flX10_42 sh_0 (by decide) rfl (pf_0_7 hP) ?_
  refine r_aload_n dX10_takeTold_42 rfl ?_
  refine r_getR dX10_takeTold_43 flX10_38 sh_0 (by decide) rfl (pf_0_6 hP) ?_
  refine r_cV1v dX10_takeTold_46 vlX10_119 (br_s 56 hb56) (Nat.le_of_ble_eq_true rfl) hb2 ?_
  have hP := hP4
  refine r_aload_n dX10_takeTold_49 rfl ?_
  refine r_iconst (v := 0) dX10_takeTold_50 (by decide) ?_
  refine r_putI dX10_takeTold_51 flX10_123 ⟨_, _, _, rfl, Or.inl rfl⟩ sh_0 (by decide) rfl rfl rfl ?_
  refine r_aload_n dX10_takeTold_54 rfl ?_
  refine r_cV0v dX10_takeTold_55 vlX10_127 sh_0 (Nat.le_of_ble_eq_true rfl) (k_fgt d) ?_
  refine r_aload_n dX10_takeTold_58 rfl ?_
  refine r_getR dX10_takeTold_59 flX10_58 sh_0 (by decide) rfl (pf_0_14 hP) ?_
  refine r_cV0v dX10_takeTold_62 vlX10_130 sh_93 (Nat.le_of_ble_eq_true rfl) (k_sgClear d) ?_
  exact r_vret dX10_takeTold_65 rfl rfl rfl
theorem ctx_n {E : xCl} {ex : Bool} {I : Nat → Nat → Int32} {J : Nat → Nat → Int64} {P : Nat → Nat → Nat} {x : Int32} (h : ¬ (¬ x < 0 ∧ x ≤ I 0 1)) (d : Nat) : xEx E ex (d + 1) yX10_text [.ref 0, .int x] (SH, I, J, P) (some (.int (-2))) (SH, I, J, P) := by
  refine x_enter cqX10_text [some (.ref 0), some (.int x), none, none] rfl (by simp [lg_sl, Value.category]) ?_
  refine r_iload_n dX10_text_0 rfl ?_
  refine r_if_lt 12 dX10_text_1 (by decide) (fun c1 => ?_) (fun c1 => ?_)
  · refine r_bipush (v := (-2)) dX10_text_12 (by decide) ?_
    exact r_iret dX10_text_14 rfl rfl rfl rfl
  · refine r_iload_n dX10_text_4 rfl ?_
    refine r_aload_n dX10_text_5 rfl ?_
    refine r_getI dX10_text_6 flX10_87 sh_0 (by decide) rfl ?_
    refine r_ic_le 15 dX10_text_9 (by decide) (fun c9 => ?_) (fun c9 => ?_)
    · exact absurd ⟨c1, c9⟩ h
    · refine r_bipush (v := (-2)) dX10_text_12 (by decide) ?_
      exact r_iret dX10_text_14 rfl rfl rfl rfl
set_option maxHeartbeats 2000000 in
theorem ctx_f {E : xCl} {ex : Bool} {I K3 K' : Nat → Nat → Int32} {J : Nat → Nat → Int64} {P : Nat → Nat → Nat} (hE : EW E) {t2 s k' : Nat} (ht2 : t2 ∈ TL) (hs : s ≤ 700) (hx : nI s ≤ I 0 1) (hq0 : Aq false t2 (xu P 16 0 (t2 + 1))) (hP : Pok P) {d : Nat} (hd : 7 ≤ d) (hbg : xEx E ex d yX7_begin [.ref 2, .int (nI s)] (SH, xu I 0 1 0, J, P) none (SH, uC t2 K3 (xu I 0 1 0), J, xu P 16 0 (t2 + 1))) (cl : cLoop (nI s) 0 K3 0 k' K') : ∃ P', Pk (xu P 16 0 (t2 + 1)) P' ∧ xEx E ex (d + 1) yX10_text [.ref 0, .int (nI s)] (SH, I, J, P) (some (.int (-1))) (SH, uC t2 K' (xu (xu (xu I 0 1 0) 0 2 (K' 2 4)) 0 3 (K' 2 5)), J, P') := by
  have key := x_enterq (E := E) (ex := ex) (d := d) cqX10_text (vs := [.ref 0, .int (nI s)]) (S := (SH, I, J, P)) (Q := fun r S => r = some (.int (-1)) ∧ ∃ P', Pk (xu P 16 0 (t2 + 1)) P' ∧ S = (SH, uC t2 K' (xu (xu (xu I 0 1 0) 0 2 (K' 2 4)) 0 3 (K' 2 5)), J, P')) [some (.ref 0), some (.int (nI s)), none, none] rfl (by simp [lg_sl, Value.category]) ?_
  · obtain ⟨r, S, h1, rfl, P', h2, rfl⟩ := key
    exact ⟨P', h2, h1⟩
  refine r_iload_n dX10_text_0 rfl ?_
  refine r_if_lt 12 dX10_text_1 (by decide) (fun c1 => ?_) (fun c1 => ?_)
  · exact absurd c1 (nI_pos (by omega))
  · refine r_iload_n dX10_text_4 rfl ?_
    refine r_aload_n dX10_text_5 rfl ?_
    refine r_getI dX10_text_6 flX10_87 sh_0 (by decide) rfl ?_
    refine r_ic_le 15 dX10_text_9 (by decide) (fun c9 => ?_) (fun c9 => ?_)
    · refine r_aload_n dX10_text_15 rfl ?_
      refine r_iconst (v := 0) dX10_text_16 (by decide) ?_
      refine r_putI dX10_text_17 flX10_87 ⟨_, _, _, rfl, Or.inl rfl⟩ sh_0 (by decide) rfl rfl rfl ?_
      refine r_iconst (v := 1) dX10_text_20 (by decide) ?_
      refine r_istore_n2 dX10_text_21 rfl ?_
      refine r_aload_n dX10_text_22 rfl ?_
      refine r_getR dX10_text_23 flX10_22 sh_0 (by decide) rfl (pf_0_4 hP) ?_
      refine r_iload_n dX10_text_26 rfl ?_
      refine r_cV1v dX10_text_27 vlX10_94 sh_2 (Nat.le_of_ble_eq_true rfl) hbg ?_
      refine r_iconst (v := 0) dX10_text_30 (by decide) ?_
      refine r_istore_n3 dX10_text_31 rfl ?_
      refine cl E ex t2 _ J _ d _ (by omega) ht2 hE hq0 (fun P' hk hq => ?_)
      refine r_aload_n dX10_text_67 rfl ?_
      refine r_aload_n dX10_text_68 rfl ?_
      refine r_getR dX10_text_69 flX10_22 sh_0 (by decide) rfl (pf_0_4 hq.1) ?_
      refine r_getIv dX10_text_72 flX10_104 sh_2 (by decide) rfl (uC_c ht2 (by decide) _) ?_
      refine r_putIv dX10_text_75 flX10_107 ⟨_, _, _, rfl, Or.inl rfl⟩ sh_0 (by decide) rfl rfl rfl (uC_x0 ht2 _ _) ?_
      refine r_aload_n dX10_text_78 rfl ?_
      refine r_aload_n dX10_text_79 rfl ?_
      refine r_getR dX10_text_80 flX10_22 sh_0 (by decide) rfl (pf_0_4 hq.1) ?_
      refine r_getIv dX10_text_83 flX10_108 sh_2 (by decide) rfl (uC_c ht2 (by decide) _) ?_
      refine r_putIv dX10_text_86 flX10_13 ⟨_, _, _, rfl, Or.inl rfl⟩ sh_0 (by decide) rfl rfl rfl (uC_x0 ht2 _ _) ?_
      refine r_iload_n dX10_text_89 rfl ?_
      refine r_if_ne 95 dX10_text_90 (by decide) (fun c90 => ?_) (fun c90 => ?_)
      · exact absurd c90 (by decide)
      · refine r_iconst (v := (-1)) dX10_text_93 (by decide) ?_
        exact r_iretq dX10_text_94 rfl rfl ⟨rfl, P', hk, rfl⟩
    · exact absurd hx c9
set_option maxHeartbeats 2000000 in
theorem ctx_s {E : xCl} {ex : Bool} {I K3 K' : Nat → Nat → Int32} {J : Nat → Nat → Int64} {P : Nat → Nat → Nat} (hE : EW E) {t2 s k' : Nat} (ht2 : t2 ∈ TL) (hs : s ≤ 700) (hx : nI s ≤ I 0 1) (hq0 : Aq false t2 (xu P 16 0 (t2 + 1))) (hP : Pok P) {d : Nat} (hd : 7 ≤ d) (hbg : xEx E ex d yX7_begin [.ref 2, .int (nI s)] (SH, xu I 0 1 0, J, P) none (SH, uC t2 K3 (xu I 0 1 0), J, xu P 16 0 (t2 + 1))) {t : Nat} (ht1 : t ∈ TL) (h5 : P 0 5 = t + 1) (cl : cLoop (nI s) 0 K3 1 k' K') : ∃ P', Pk (xu P 16 0 (t2 + 1)) P' ∧ xEx E ex (d + 1) yX10_text [.ref 0, .int (nI s)] (SH, I, J, P) (some (.int (K' 500 10))) (SH, (xu (xu (xu (xu (wB (wB (uC t2 K' (xu (xu (xu I 0 1 0) 0 2 (K' 2 4)) 0 3 (K' 2 5))) 44 (vB (uC t2 K' (xu (xu (xu I 0 1 0) 0 2 (K' 2 4)) 0 3 (K' 2 5))) 16)) 56 (vB (uC t2 K' (xu (xu (xu I 0 1 0) 0 2 (K' 2 4)) 0 3 (K' 2 5))) 16)) 0 9 0) 0 13 0) 93 4 0) 93 5 (-1)), J, (xu (xu (xu (xu P' 0 5 (t2 + 1)) 2 2 (t + 1)) 44 0 (t2 + 1)) 56 0 (t2 + 1))) := by
  have hln : ∀ _P' : Nat → Nat → Nat, (xu (xu (xu (xu (wB (wB (uC t2 K' (xu (xu (xu I 0 1 0) 0 2 (K' 2 4)) 0 3 (K' 2 5))) 44 (vB (uC t2 K' (xu (xu (xu I 0 1 0) 0 2 (K' 2 4)) 0 3 (K' 2 5))) 16)) 56 (vB (uC t2 K' (xu (xu (xu I 0 1 0) 0 2 (K' 2 4)) 0 3 (K' 2 5))) 16)) 0 9 0) 0 13 0) 93 4 0) 93 5 (-1)) t2 10 = K' 500 10 := fun _ => by
    have h3 := tl_c ht2
    rw [xu_ne (by omega), xu_ne (by omega), xu_ne (by omega), xu_ne (by omega), wB_o _ _ _ (by omega), wB_o _ _ _ (by omega), uC_t0]
  have key := x_enterq (E := E) (ex := ex) (d := d) cqX10_text (vs := [.ref 0, .int (nI s)]) (S := (SH, I, J, P)) (Q := fun r S => r = some (.int (K' 500 10)) ∧ ∃ P', Pk (xu P 16 0 (t2 + 1)) P' ∧ S = (SH, (xu (xu (xu (xu (wB (wB (uC t2 K' (xu (xu (xu I 0 1 0) 0 2 (K' 2 4)) 0 3 (K' 2 5))) 44 (vB (uC t2 K' (xu (xu (xu I 0 1 0) 0 2 (K' 2 4)) 0 3 (K' 2 5))) 16)) 56 (vB (uC t2 K' (xu (xu (xu I 0 1 0) 0 2 (K' 2 4)) 0 3 (K' 2 5))) 16)) 0 9 0) 0 13 0) 93 4 0) 93 5 (-1)), J, (xu (xu (xu (xu P' 0 5 (t2 + 1)) 2 2 (t + 1)) 44 0 (t2 + 1)) 56 0 (t2 + 1)))) [some (.ref 0), some (.int (nI s)), none, none] rfl (by simp [lg_sl, Value.category]) ?_
  · obtain ⟨r, S, h1, rfl, P', h2, rfl⟩ := key
    exact ⟨P', h2, h1⟩
  refine r_iload_n dX10_text_0 rfl ?_
  refine r_if_lt 12 dX10_text_1 (by decide) (fun c1 => ?_) (fun c1 => ?_)
  · exact absurd c1 (nI_pos (by omega))
  · refine r_iload_n dX10_text_4 rfl ?_
    refine r_aload_n dX10_text_5 rfl ?_
    refine r_getI dX10_text_6 flX10_87 sh_0 (by decide) rfl ?_
    refine r_ic_le 15 dX10_text_9 (by decide) (fun c9 => ?_) (fun c9 => ?_)
    · refine r_aload_n dX10_text_15 rfl ?_
      refine r_iconst (v := 0) dX10_text_16 (by decide) ?_
      refine r_putI dX10_text_17 flX10_87 ⟨_, _, _, rfl, Or.inl rfl⟩ sh_0 (by decide) rfl rfl rfl ?_
      refine r_iconst (v := 1) dX10_text_20 (by decide) ?_
      refine r_istore_n2 dX10_text_21 rfl ?_
      refine r_aload_n dX10_text_22 rfl ?_
      refine r_getR dX10_text_23 flX10_22 sh_0 (by decide) rfl (pf_0_4 hP) ?_
      refine r_iload_n dX10_text_26 rfl ?_
      refine r_cV1v dX10_text_27 vlX10_94 sh_2 (Nat.le_of_ble_eq_true rfl) hbg ?_
      refine r_iconst (v := 0) dX10_text_30 (by decide) ?_
      refine r_istore_n3 dX10_text_31 rfl ?_
      refine cl E ex t2 _ J _ d _ (by omega) ht2 hE hq0 (fun P' hk hq => ?_)
      refine r_aload_n dX10_text_67 rfl ?_
      refine r_aload_n dX10_text_68 rfl ?_
      refine r_getR dX10_text_69 flX10_22 sh_0 (by decide) rfl (pf_0_4 hq.1) ?_
      refine r_getIv dX10_text_72 flX10_104 sh_2 (by decide) rfl (uC_c ht2 (by decide) _) ?_
      refine r_putIv dX10_text_75 flX10_107 ⟨_, _, _, rfl, Or.inl rfl⟩ sh_0 (by decide) rfl rfl rfl (uC_x0 ht2 _ _) ?_
      refine r_aload_n dX10_text_78 rfl ?_
      refine r_aload_n dX10_text_79 rfl ?_
      refine r_getR dX10_text_80 flX10_22 sh_0 (by decide) rfl (pf_0_4 hq.1) ?_
      refine r_getIv dX10_text_83 flX10_108 sh_2 (by decide) rfl (uC_c ht2 (by decide) _) ?_
      refine r_putIv dX10_text_86 flX10_13 ⟨_, _, _, rfl, Or.inl rfl⟩ sh_0 (by decide) rfl rfl rfl (uC_x0 ht2 _ _) ?_
      refine r_iload_n dX10_text_89 rfl ?_
      refine r_if_ne 95 dX10_text_90 (by decide) (fun c90 => ?_) (fun c90 => ?_)
      · refine r_aload_n dX10_text_95 rfl ?_
        refine r_cV0v dX10_text_96 vlX10_109 sh_0 (Nat.le_of_ble_eq_true rfl) (x_le (show 2 ≤ d by omega) (k_tkt (A := uC t2 K' (xu (xu (xu I 0 1 0) 0 2 (K' 2 4)) 0 3 (K' 2 5))) hq.1 ht1 ht2 (((hk 0 5 (by omega)).trans (xu_ne (by omega))).trans h5) hq.2.1 ((hk 16 0 (by omega)).trans (xu_s _ _ _ _)) 0)) ?_
        refine r_aload_n dX10_text_99 rfl ?_
        refine r_getR dX10_text_100 flX10_29 sh_0 (by decide) rfl ((xu_ne (by omega)).trans ((xu_ne (by omega)).trans ((xu_ne (by omega)).trans (xu_s _ _ _ _)))) ?_
        refine r_getIv dX10_text_103 flX10_112 (tl_s _ ht2) (by decide) rfl (hln P') ?_
        exact r_iretq dX10_text_106 rfl rfl ⟨rfl, P', hk, rfl⟩
      · exact absurd c90 (by decide)
    · exact absurd hx c9
