/-! the constructor of the ledger (by program, wip/gen2/ctor10.py) -/
abbrev NoE : xCl := fun _ _ _ _ _ => False
def I00 : Nat → Nat → Int32 := fun _ _ => 0
theorem sZo_id {V : Nat → Nat → Int32} (h : ∀ k, V 11 k = 0) : ∀ j, sZo V j = V
  | 0 => rfl
  | j + 1 => by rw [sZo, sZo_id h j, xu_sv (h j)]
theorem sClr_id {V : Nat → Nat → Int32} (h : ∀ k, V 11 k = 0) (h1 : V 12 0 = 0) (h2 : V 13 0 = 0) (h3 : V 14 0 = 0) (h4 : V 15 0 = 0) : sClr V = V := by
  unfold sClr
  rw [sZo_id h, xu_sv h1, xu_sv h2, xu_sv h3, xu_sv h4]
theorem PT_le : ∀ a, a < 347 → ∀ v ∈ PT.getD a [], v ≤ 347 := by decide +kernel
theorem PI_le {a : Nat} (h : a < 347) (k : Nat) : PI a k ≤ 347 := by
  unfold PI
  rw [List.getD_eq_getElem?_getD]
  cases e : (PT.getD a [])[k]? with
  | none => exact Nat.zero_le _
  | some v => exact PT_le a h v (List.mem_of_getElem? e)
theorem PI_ok : Pok PI := by unfold Pok; decide +kernel
theorem br_107 : ∀ i, i < 20 → 107 + 12 * i ∈ BR := by decide
theorem sh_92' : SH[92]? = some (.inr 4, 20) := by decide +kernel
/-- a bridge cleared, over fewer cells -/
theorem i_clr {I : Nat → Nat → Int32} {P : Nat → Nat → Nat} (hP : Pok P) (hc : ∀ a, a < 347 → ∀ k, P a k ≤ 347) {b : Nat} (hb : b ∈ BR) (hb2 : b < 347) (hz : ∀ a k, b ≤ a → a < b + 12 → I a k = 0) (d : Nat) : xEx NoE true (d + 1) yX0_clear [.ref b, .ref 31] (SH.take 347, I, J0, P) none (SH.take 347, I, J0, xu P b 0 (31 + 1)) := by
  have h := k_clear (E := NoE) (ex := false) (I := I) (V := vB I b) (J := J0) hP hb 31 d
  rw [wB_vB, sClr_id (fun k => by simp only [vB]; exact hz _ k (by omega) (by omega)) (hz b 12 (by omega) (by omega)) (hz b 13 (by omega) (by omega)) (hz b 14 (by omega) (by omega)) (hz b 15 (by omega) (by omega)), wB_vB] at h
  exact (xEx_rs (n := 347) (d + 1) _ _ _ _ _ h hc (sOk.c (vOk.r hb2) (sOk.c (vOk.r (by omega)) sOk.n))).1
set_option maxHeartbeats 2000000 in
theorem i_loop {E : xCl} {I : Nat → Nat → Int32} (hI : ∀ a k, 107 ≤ a → I a k = 0) (d : Nat) {Q : Option Value → xS → Prop} (K : xR (xEx E true (d + 1)) true none yX10_init cX10_init none 176 [some (.ref 0), some (.int (nI 20))] [] (SH.take 347, I, J0, PI) Q) : ∀ c i, i + c = 20 → xR (xEx E true (d + 1)) true none yX10_init cX10_init none 151 [some (.ref 0), some (.int (nI i))] [] (SH.take (107 + 12 * i), I, J0, rwp PI 92 i) Q := by
  intro c
  induction c with
  | zero =>
    intro i hi
    obtain rfl : i = 20 := by omega
    refine r_iload_n dX10_init_151 rfl ?_
    refine r_bipush (v := 20) dX10_init_152 (by decide) ?_
    refine r_ic_ge 176 dX10_init_154 (by decide) (fun _ => ?_) (fun h => absurd (show (20 : Int32) ≤ nI 20 by decide) h)
    rw [rwp_end (fun k hk => gd_big (by rw [prow_92l]; exact hk))]
    exact K
  | succ c ih =>
    intro i hi
    have hb := br_107 i (by omega)
    refine r_iload_n dX10_init_151 rfl ?_
    refine r_bipush (v := 20) dX10_init_152 (by decide) ?_
    refine r_ic_ge 176 dX10_init_154 (by decide) (fun h => absurd h (nI_ge (a := i) (b := 20) (by omega) (by omega))) (fun _ => ?_)
    refine r_aload_n dX10_init_157 rfl ?_
    refine r_getR dX10_init_158 flX10_49 (tk sh_0 (by omega)) (by decide) rfl (v := 92) ((rwp_o (by omega) _).trans (by decide +kernel)) ?_
    refine r_iload_n dX10_init_161 rfl ?_
    refine c_new (q := 107 + 12 * i) dX10_init_162 nlX10_33 (br_s _ hb) (fun k => hI _ k (by omega)) ?_
    refine r_dup dX10_init_165 rfl ?_
    refine r_cI0 dX10_init_166 ilX10_35 (by simp [Value.category]) (i_X0 hb (fun a k z => hI a k (by omega)) (fun a k z1 z2 => rwp_o (by omega) k) d) ?_
    refine r_aas dX10_init_169 (tk sh_92' (by omega)) (tk (br_s _ hb) (by omega)) (vp_in_nI (n := i) (by omega) (by omega)) ?_
    rw [nI_clamp (by omega), rwp_x (Nat.le_refl i) (fun k z1 z2 => by omega) (prow_92 i (by omega))]
    refine r_iinc1 (v := 1) dX10_init_170 (by decide) rfl ?_
    refine r_goto 151 dX10_init_173 (by decide) ?_
    rw [nI_1]
    exact ih (i + 1) (by omega)
def ICC : Nat → Nat → Int32 := lCl (xu (xu I00 0 3 (-1)) 93 5 (-1)) 31 3
def PCC : Nat → Nat → Nat := xu (xu PI 44 0 32) 56 0 32
set_option maxHeartbeats 4000000 in
theorem i_X10 (d : Nat) : xEx NoE true (d + 4) yX10_init [.ref 0] (SH.take (0 + 1), I00, J0, zr PI 0) none (SH.take 347, ICC, J0, PCC) := by
  have hr : ∀ k, PI 0 k = [2, 0, 0, 0, 3, 32, 45, 57, 69, 0, 81, 93, 0, 0, 94, 99, 102, 104, 107].getD k 0 := fun k => PI_r prow_0 k
  have hr2 : ∀ k, rwp PI 92 0 0 k = [2, 0, 0, 0, 3, 32, 45, 57, 69, 0, 81, 93, 0, 0, 94, 99, 102, 104, 107].getD k 0 := fun k => (rwp_o (by omega) k).trans (PI_r prow_0 k)
  have gz : ∀ i j, (∀ z, z < 19 → i ≤ z → z < j → [2, 0, 0, 0, 3, 32, 45, 57, 69, 0, 81, 93, 0, 0, 94, 99, 102, 104, 107].getD z 0 = 0) → ∀ z, i ≤ z → z < j → j ≤ 19 → PI 0 z = 0 := fun i j h z z1 z2 z3 => (hr z).trans (h z (by omega) z1 z2)
  refine x_enter cqX10_init [some (.ref 0), none] rfl (by simp [lg_sl, Value.category]) ?_
  rw [zr_up]
  refine r_aload_n dX10_init_0 rfl ?_
  refine r_oi dX10_init_1 olX10_1 (by simp [Value.category]) ?_
  refine r_aload_n dX10_init_4 rfl ?_
  refine r_sipush (v := 700) dX10_init_5 (by decide) ?_
  refine c_newa (q := 1) (m := 700) dX10_init_8 ⟨by decide, by decide, by decide⟩ rfl (by decide +kernel) (fun k => rfl) (fun k => (rwp_o (by omega) k).trans (PI_e prow_1 k)) ?_
  refine c_put (P := PI) (n := 0) (i := 0) (q := 1) dX10_init_10 flX10_9 ⟨_, _, _, rfl, Or.inr ⟨rfl, rfl, rfl⟩⟩ sh_0 (by omega) (by decide) rfl rfl (by omega) (fun z z1 z2 => (hr z).trans ((show ∀ z, z < 19 → 0 ≤ z → z < 0 → [2, 0, 0, 0, 3, 32, 45, 57, 69, 0, 81, 93, 0, 0, 94, 99, 102, 104, 107].getD z 0 = 0 from by decide) z (by omega) z1 z2)) (by rw [hr]; rfl) ?_
  refine r_aload_n dX10_init_13 rfl ?_
  refine r_iconst (v := -1) dX10_init_14 (by decide) ?_
  refine r_putI dX10_init_15 flX10_13 ⟨_, _, _, rfl, Or.inl rfl⟩ (tk sh_0 (by omega)) (by decide) rfl rfl rfl ?_
  refine r_aload_n dX10_init_18 rfl ?_
  refine c_new (q := 2) dX10_init_19 nlX10_17 ((by decide +kernel)) (fun k => by simp [I00, xu]) ?_
  refine r_dup dX10_init_22 rfl ?_
  refine r_aload_n dX10_init_23 rfl ?_
  refine r_getR dX10_init_24 flX10_9 (tk sh_0 (by omega)) (by decide) rfl (v := 1) (by simp only [zr, rwp]; decide +kernel) ?_
  refine r_cI1 dX10_init_27 ilX10_19 (by simp [Value.category]) (i_X7 (fun a k z => by simp only [I00, xu]; rw [if_neg (by omega)]) (fun a k z1 z2 => rwp_o (by omega) k) d) ?_
  refine c_put (P := PI) (n := 0) (i := 1) (q := 2) dX10_init_30 flX10_22 ⟨_, _, _, rfl, Or.inr ⟨rfl, rfl, rfl⟩⟩ sh_0 (by omega) (by decide) rfl rfl (by omega) (fun z z1 z2 => (hr z).trans ((show ∀ z, z < 19 → 1 ≤ z → z < 4 → [2, 0, 0, 0, 3, 32, 45, 57, 69, 0, 81, 93, 0, 0, 94, 99, 102, 104, 107].getD z 0 = 0 from by decide) z (by omega) z1 z2)) (by rw [hr]; rfl) ?_
  refine r_aload_n dX10_init_33 rfl ?_
  refine c_new (q := 31) dX10_init_34 nlX10_26 (tl_s 31 (by decide)) (fun k => by simp [I00, xu]) ?_
  refine r_dup dX10_init_37 rfl ?_
  refine r_cI0 dX10_init_38 ilX10_28 (by simp [Value.category]) (i_X6 (t := 31) (by decide) (fun a k z => by simp only [I00, xu]; rw [if_neg (by omega)]) (fun a k z1 z2 => rwp_o (by omega) k) (d + 1)) ?_
  refine c_put (P := PI) (n := 0) (i := 5) (q := 31) dX10_init_41 flX10_29 ⟨_, _, _, rfl, Or.inl rfl⟩ sh_0 (by omega) (by decide) rfl rfl (by omega) (fun z z1 z2 => (hr z).trans ((show ∀ z, z < 19 → 5 ≤ z → z < 5 → [2, 0, 0, 0, 3, 32, 45, 57, 69, 0, 81, 93, 0, 0, 94, 99, 102, 104, 107].getD z 0 = 0 from by decide) z (by omega) z1 z2)) (by rw [hr]; rfl) ?_
  refine r_aload_n dX10_init_44 rfl ?_
  refine c_new (q := 44) dX10_init_45 nlX10_33 (br_s 44 (by decide)) (fun k => by simp [I00, xu]) ?_
  refine r_dup dX10_init_48 rfl ?_
  refine r_cI0 dX10_init_49 ilX10_35 (by simp [Value.category]) (i_X0 (b := 44) (by decide) (fun a k z => by simp only [I00, xu]; rw [if_neg (by omega)]) (fun a k z1 z2 => rwp_o (by omega) k) (d + 2)) ?_
  refine c_put (P := PI) (n := 0) (i := 6) (q := 44) dX10_init_52 flX10_36 ⟨_, _, _, rfl, Or.inr ⟨rfl, rfl, rfl⟩⟩ sh_0 (by omega) (by decide) rfl rfl (by omega) (fun z z1 z2 => (hr z).trans ((show ∀ z, z < 19 → 6 ≤ z → z < 6 → [2, 0, 0, 0, 3, 32, 45, 57, 69, 0, 81, 93, 0, 0, 94, 99, 102, 104, 107].getD z 0 = 0 from by decide) z (by omega) z1 z2)) (by rw [hr]; rfl) ?_
  refine r_aload_n dX10_init_55 rfl ?_
  refine c_new (q := 56) dX10_init_56 nlX10_33 (br_s 56 (by decide)) (fun k => by simp [I00, xu]) ?_
  refine r_dup dX10_init_59 rfl ?_
  refine r_cI0 dX10_init_60 ilX10_35 (by simp [Value.category]) (i_X0 (b := 56) (by decide) (fun a k z => by simp only [I00, xu]; rw [if_neg (by omega)]) (fun a k z1 z2 => rwp_o (by omega) k) (d + 2)) ?_
  refine c_put (P := PI) (n := 0) (i := 7) (q := 56) dX10_init_63 flX10_40 ⟨_, _, _, rfl, Or.inr ⟨rfl, rfl, rfl⟩⟩ sh_0 (by omega) (by decide) rfl rfl (by omega) (fun z z1 z2 => (hr z).trans ((show ∀ z, z < 19 → 7 ≤ z → z < 7 → [2, 0, 0, 0, 3, 32, 45, 57, 69, 0, 81, 93, 0, 0, 94, 99, 102, 104, 107].getD z 0 = 0 from by decide) z (by omega) z1 z2)) (by rw [hr]; rfl) ?_
  refine r_aload_n dX10_init_66 rfl ?_
  refine c_new (q := 68) dX10_init_67 nlX10_33 (br_s 68 (by decide)) (fun k => by simp [I00, xu]) ?_
  refine r_dup dX10_init_70 rfl ?_
  refine r_cI0 dX10_init_71 ilX10_35 (by simp [Value.category]) (i_X0 (b := 68) (by decide) (fun a k z => by simp only [I00, xu]; rw [if_neg (by omega)]) (fun a k z1 z2 => rwp_o (by omega) k) (d + 2)) ?_
  refine c_put (P := PI) (n := 0) (i := 8) (q := 68) dX10_init_74 flX10_43 ⟨_, _, _, rfl, Or.inr ⟨rfl, rfl, rfl⟩⟩ sh_0 (by omega) (by decide) rfl rfl (by omega) (fun z z1 z2 => (hr z).trans ((show ∀ z, z < 19 → 8 ≤ z → z < 8 → [2, 0, 0, 0, 3, 32, 45, 57, 69, 0, 81, 93, 0, 0, 94, 99, 102, 104, 107].getD z 0 = 0 from by decide) z (by omega) z1 z2)) (by rw [hr]; rfl) ?_
  refine r_aload_n dX10_init_77 rfl ?_
  refine c_new (q := 80) dX10_init_78 nlX10_33 (br_s 80 (by decide)) (fun k => by simp [I00, xu]) ?_
  refine r_dup dX10_init_81 rfl ?_
  refine r_cI0 dX10_init_82 ilX10_35 (by simp [Value.category]) (i_X0 (b := 80) (by decide) (fun a k z => by simp only [I00, xu]; rw [if_neg (by omega)]) (fun a k z1 z2 => rwp_o (by omega) k) (d + 2)) ?_
  refine c_put (P := PI) (n := 0) (i := 9) (q := 80) dX10_init_85 flX10_46 ⟨_, _, _, rfl, Or.inr ⟨rfl, rfl, rfl⟩⟩ sh_0 (by omega) (by decide) rfl rfl (by omega) (fun z z1 z2 => (hr z).trans ((show ∀ z, z < 19 → 9 ≤ z → z < 10 → [2, 0, 0, 0, 3, 32, 45, 57, 69, 0, 81, 93, 0, 0, 94, 99, 102, 104, 107].getD z 0 = 0 from by decide) z (by omega) z1 z2)) (by rw [hr]; rfl) ?_
  refine r_aload_n dX10_init_88 rfl ?_
  refine r_bipush (v := 20) dX10_init_89 (by decide) ?_
  refine c_anew (q := 92) (m := 20) dX10_init_91 wcX10_33 ⟨by decide, by decide, by decide⟩ sh_92' (fun k => by simp [I00, xu]) ?_
  rw [show zr (rwp PI 0 11) 92 = rwp (rwp PI 92 0) 0 11 from by
    funext a k
    unfold zr rwp
    by_cases e : a = 92
    · subst e; simp
    · simp [e]]
  refine c_put (P := (rwp PI 92 0)) (n := 0) (i := 11) (q := 92) dX10_init_94 flX10_49 ⟨_, _, _, rfl, Or.inr ⟨rfl, rfl, rfl⟩⟩ sh_0 (by omega) (by decide) rfl rfl (by omega) (fun z z1 z2 => (hr2 z).trans ((show ∀ z, z < 19 → 11 ≤ z → z < 11 → [2, 0, 0, 0, 3, 32, 45, 57, 69, 0, 81, 93, 0, 0, 94, 99, 102, 104, 107].getD z 0 = 0 from by decide) z (by omega) z1 z2)) (by rw [hr2]; rfl) ?_
  refine r_aload_n dX10_init_97 rfl ?_
  refine c_new (q := 93) dX10_init_98 nlX10_53 (by decide +kernel) (fun k => by simp [I00, xu]) ?_
  refine r_dup dX10_init_101 rfl ?_
  refine r_cI0 dX10_init_102 ilX10_55 (by simp [Value.category]) (i_X5 (fun a k z => by simp only [I00, xu]; rw [if_neg (by omega)]) (fun a k z1 z2 => (rwp_o (by omega) k).trans (rwp_o (by omega) k)) (d + 2)) ?_
  refine c_put (P := (rwp PI 92 0)) (n := 0) (i := 12) (q := 93) dX10_init_105 flX10_56 ⟨_, _, _, rfl, Or.inr ⟨rfl, rfl, rfl⟩⟩ sh_0 (by omega) (by decide) rfl rfl (by omega) (fun z z1 z2 => (hr2 z).trans ((show ∀ z, z < 19 → 12 ≤ z → z < 14 → [2, 0, 0, 0, 3, 32, 45, 57, 69, 0, 81, 93, 0, 0, 94, 99, 102, 104, 107].getD z 0 = 0 from by decide) z (by omega) z1 z2)) (by rw [hr2]; rfl) ?_
  refine r_aload_n dX10_init_108 rfl ?_
  refine c_new (q := 98) dX10_init_109 nlX10_60 (by decide +kernel) (fun k => by simp [I00, xu]) ?_
  refine r_dup dX10_init_112 rfl ?_
  refine r_cI0 dX10_init_113 ilX10_62 (by simp [Value.category]) (i_X9 (fun a k z => by simp only [I00, xu]; rw [if_neg (by omega), if_neg (by omega)]) (fun a k z1 z2 => (rwp_o (by omega) k).trans (rwp_o (by omega) k)) (d + 2)) ?_
  refine c_put (P := (rwp PI 92 0)) (n := 0) (i := 15) (q := 98) dX10_init_116 flX10_63 ⟨_, _, _, rfl, Or.inr ⟨rfl, rfl, rfl⟩⟩ sh_0 (by omega) (by decide) rfl rfl (by omega) (fun z z1 z2 => (hr2 z).trans ((show ∀ z, z < 19 → 15 ≤ z → z < 15 → [2, 0, 0, 0, 3, 32, 45, 57, 69, 0, 81, 93, 0, 0, 94, 99, 102, 104, 107].getD z 0 = 0 from by decide) z (by omega) z1 z2)) (by rw [hr2]; rfl) ?_
  refine r_aload_n dX10_init_119 rfl ?_
  refine c_new (q := 101) dX10_init_120 nlX10_67 (by decide +kernel) (fun k => by simp [I00, xu]) ?_
  refine r_dup dX10_init_123 rfl ?_
  refine r_cI0 dX10_init_124 ilX10_69 (by simp [Value.category]) (i_X3 (fun a k z => by simp only [I00, xu]; rw [if_neg (by omega), if_neg (by omega)]) (fun a k z1 z2 => (rwp_o (by omega) k).trans (rwp_o (by omega) k)) (d + 2)) ?_
  refine c_put (P := (rwp PI 92 0)) (n := 0) (i := 16) (q := 101) dX10_init_127 flX10_70 ⟨_, _, _, rfl, Or.inr ⟨rfl, rfl, rfl⟩⟩ sh_0 (by omega) (by decide) rfl rfl (by omega) (fun z z1 z2 => (hr2 z).trans ((show ∀ z, z < 19 → 16 ≤ z → z < 16 → [2, 0, 0, 0, 3, 32, 45, 57, 69, 0, 81, 93, 0, 0, 94, 99, 102, 104, 107].getD z 0 = 0 from by decide) z (by omega) z1 z2)) (by rw [hr2]; rfl) ?_
  refine r_aload_n dX10_init_130 rfl ?_
  refine c_new (q := 103) dX10_init_131 nlX10_74 (by decide +kernel) (fun k => by simp [I00, xu]) ?_
  refine r_dup dX10_init_134 rfl ?_
  refine r_cI0 dX10_init_135 ilX10_76 (by simp [Value.category]) (i_X4 (fun a k z => by simp only [I00, xu]; rw [if_neg (by omega), if_neg (by omega)]) (fun a k z1 z2 => (rwp_o (by omega) k).trans (rwp_o (by omega) k)) (d + 2)) ?_
  refine c_put (P := (rwp PI 92 0)) (n := 0) (i := 17) (q := 103) dX10_init_138 flX10_77 ⟨_, _, _, rfl, Or.inr ⟨rfl, rfl, rfl⟩⟩ sh_0 (by omega) (by decide) rfl rfl (by omega) (fun z z1 z2 => (hr2 z).trans ((show ∀ z, z < 19 → 17 ≤ z → z < 17 → [2, 0, 0, 0, 3, 32, 45, 57, 69, 0, 81, 93, 0, 0, 94, 99, 102, 104, 107].getD z 0 = 0 from by decide) z (by omega) z1 z2)) (by rw [hr2]; rfl) ?_
  refine r_aload_n dX10_init_141 rfl ?_
  refine r_bipush (v := 11) dX10_init_142 (by decide) ?_
  refine c_newa (q := 106) (m := 11) dX10_init_144 ⟨by decide, by decide, by decide⟩ rfl (by decide +kernel) (fun k => by simp [I00, xu]) (fun k => (rwp_o (by omega) k).trans ((rwp_o (by omega) k).trans (PI_e (prow_a104 2 (by omega)) k))) ?_
  refine c_put (P := (rwp PI 92 0)) (n := 0) (i := 18) (q := 106) dX10_init_146 flX10_81 ⟨_, _, _, rfl, Or.inr ⟨rfl, rfl, rfl⟩⟩ sh_0 (by omega) (by decide) rfl rfl (by omega) (fun z z1 z2 => (hr2 z).trans ((show ∀ z, z < 19 → 18 ≤ z → z < 18 → [2, 0, 0, 0, 3, 32, 45, 57, 69, 0, 81, 93, 0, 0, 94, 99, 102, 104, 107].getD z 0 = 0 from by decide) z (by omega) z1 z2)) (by rw [hr2]; rfl) ?_
  rw [rwp_end (P := rwp PI 92 0) (n := 0) (fun k hk => by rw [hr2]; exact gd_big (by simpa using hk))]
  refine r_iconst (v := 0) dX10_init_149 (by decide) ?_
  refine r_istore_n1 dX10_init_150 rfl ?_
  rw [show (0 : Int32) = nI 0 from rfl]
  refine i_loop (I := xu (xu I00 0 3 (-1)) 93 5 (-1)) (fun a k z => by simp only [I00, xu]; rw [if_neg (by omega), if_neg (by omega)]) (d + 2) ?_ 20 0 (by omega)
  have z0 : ∀ a k, ¬ a = 0 → ¬ a = 93 → xu (xu I00 0 3 (-1)) 93 5 (-1) a k = 0 := fun a k h1 h2 => by simp [I00, xu, h1, h2]
  have z1 : ∀ a k, ¬ a = 0 → ¬ a = 93 → ¬ (a = 40 ∨ a = 41) → ICC a k = 0 := fun a k h1 h2 h3 => by
    unfold ICC lCl; rw [if_neg (by omega)]; exact z0 a k h1 h2
  refine r_aload_n dX10_init_176 rfl ?_
  refine r_getR dX10_init_177 flX10_29 (tk sh_0 (by omega)) (by decide) rfl (v := 31) (by decide +kernel) ?_
  refine r_cV0v dX10_init_180 vlX10_85 (tk (tl_s 31 (by decide)) (by omega)) (by simp) (i_tclr (t := 31) (by decide) (tk (tl_s 31 (by decide)) (by omega)) (tk (tl_w 31 (by decide)) (by omega)) (tk (tw_a1 31 (by decide)) (by omega)) (tk (tw_a2 31 (by decide)) (by omega)) (by decide +kernel) (by decide +kernel) (by decide +kernel) (fun k => z0 _ k (by omega) (by omega)) (z0 _ _ (by omega) (by omega)) (z0 _ _ (by omega) (by omega)) (d + 1)) ?_
  refine r_aload_n dX10_init_183 rfl ?_
  refine r_getR dX10_init_184 flX10_36 (tk sh_0 (by omega)) (by decide) rfl (v := 44) (by decide +kernel) ?_
  refine r_aload_n dX10_init_187 rfl ?_
  refine r_getR dX10_init_188 flX10_29 (tk sh_0 (by omega)) (by decide) rfl (v := 31) (by decide +kernel) ?_
  refine r_cV1v dX10_init_191 vlX10_88 (tk (br_s 44 (by decide)) (by omega)) (by simp) (i_clr (I := ICC) (b := 44) PI_ok (fun a h k => PI_le h k) (by decide) (by omega) (fun a k h1 h2 => z1 a k (by omega) (by omega) (by omega)) (d + 2)) ?_
  refine r_aload_n dX10_init_194 rfl ?_
  refine r_getR dX10_init_195 flX10_40 (tk sh_0 (by omega)) (by decide) rfl (v := 56) (by rw [xu_ne (by omega)]; decide +kernel) ?_
  refine r_aload_n dX10_init_198 rfl ?_
  refine r_getR dX10_init_199 flX10_29 (tk sh_0 (by omega)) (by decide) rfl (v := 31) (by rw [xu_ne (by omega)]; decide +kernel) ?_
  refine r_cV1v dX10_init_202 vlX10_88 (tk (br_s 56 (by decide)) (by omega)) (by simp) (i_clr (I := ICC) (b := 56) (P := xu PI 44 0 (31 + 1)) (PI_ok.xb (by decide) (31 + 1)) (fun a h k => by
    unfold xu
    split
    · omega
    · exact PI_le h k) (by decide) (by omega) (fun a k h1 h2 => z1 a k (by omega) (by omega) (by omega)) (d + 2)) ?_
  exact r_vret dX10_init_205 rfl rfl rfl
