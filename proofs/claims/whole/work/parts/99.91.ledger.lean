/-! the constructor of the ledger (by program, wip/gen2/ctor10.py) -/
abbrev NoE : xCl := fun _ _ _ _ _ => False
def I00 : Nat → Nat → Int32 := fun _ _ => 0
theorem PI_ok : Pok PI := by unfold Pok; decide +kernel
theorem br_107 : ∀ i, i < 20 → 107 + 12 * i ∈ BR := by decide
theorem sh_92' : SH[92]? = some (.inr 4, 20) := by decide +kernel
theorem pt_107 : ∀ i, i < 20 → PI (107 + 12 * i) 0 = 31 + 1 := by decide +kernel
def IA : Nat → Nat → Int32 := xu I00 0 3 (-1)
def IB : Nat → Nat → Int32 := lCl (lCl IA 3 3) 31 3
def ICC : Nat → Nat → Int32 := xu IB 93 5 (-1)
abbrev PCC : Nat → Nat → Nat := PI
theorem zIA {a : Nat} (h : 0 < a) (k : Nat) : IA a k = 0 := xu_ne (by omega)
theorem zIA2 {a : Nat} (h : 16 ≤ a) (k : Nat) : lCl IA 3 3 a k = 0 := (lCl_o (by omega) k).trans (zIA (by omega) k)
theorem zIB {a : Nat} (h : 44 ≤ a) (k : Nat) : IB a k = 0 := (lCl_o (by omega) k).trans (zIA2 (by omega) k)
theorem zIC {a : Nat} (h : 94 ≤ a) (k : Nat) : ICC a k = 0 := (xu_ne (by omega)).trans (zIB (by omega) k)
set_option maxHeartbeats 2000000 in
theorem i_loop {E : xCl} {I : Nat → Nat → Int32} (hI : ∀ a k, 107 ≤ a → I a k = 0) (d : Nat) {Q : Option Value → xS → Prop} (K : xR (xEx E true (d + 2)) true none yX10_init cX10_init none 196 [some (.ref 0), some (.int (nI 20))] [] (SH.take 347, I, J0, PI) Q) : ∀ c i, i + c = 20 → xR (xEx E true (d + 2)) true none yX10_init cX10_init none 167 [some (.ref 0), some (.int (nI i))] [] (SH.take (107 + 12 * i), I, J0, rwp PI 92 i) Q := by
  intro c
  induction c with
  | zero =>
    intro i hi
    obtain rfl : i = 20 := by omega
    refine r_iload_n dX10_init_167 rfl ?_
    refine r_bipush (v := 20) dX10_init_168 (by decide) ?_
    refine r_ic_ge 196 dX10_init_170 (by decide) (fun _ => ?_) (fun h => absurd (show (20 : Int32) ≤ nI 20 by decide) h)
    rw [rwp_end (fun k hk => gd_big (by rw [prow_92l]; exact hk))]
    exact K
  | succ c ih =>
    intro i hi
    have hb := br_107 i (by omega)
    refine r_iload_n dX10_init_167 rfl ?_
    refine r_bipush (v := 20) dX10_init_168 (by decide) ?_
    refine r_ic_ge 196 dX10_init_170 (by decide) (fun h => absurd h (nI_ge (a := i) (b := 20) (by omega) (by omega))) (fun _ => ?_)
    refine r_aload_n dX10_init_173 rfl ?_
    refine r_getR dX10_init_174 flX10_51 (tk sh_0 (by omega)) (by decide) rfl (v := 92) ((rwp_o (by omega) _).trans (by decide +kernel)) ?_
    refine r_iload_n dX10_init_177 rfl ?_
    refine c_new (q := 107 + 12 * i) dX10_init_178 nlX10_33 (br_s _ hb) (fun k => hI _ k (by omega)) ?_
    refine r_dup dX10_init_181 rfl ?_
    refine r_aload_n dX10_init_182 rfl ?_
    refine r_getR dX10_init_183 flX10_29 (tk sh_0 (by omega)) (by decide) rfl (v := 31) (by unfold zr; rw [if_neg (by omega)]; exact (rwp_o (by omega) _).trans (by decide +kernel)) ?_
    refine r_cI1 dX10_init_186 ilX10_35 (by simp [Value.category]) (i_X0 hb (pt_107 i (by omega)) (fun a k z => hI a k (by omega)) (fun a k z1 z2 => rwp_o (by omega) k) d) ?_
    refine r_aas dX10_init_189 (tk sh_92' (by omega)) (tk (br_s _ hb) (by omega)) (vp_in_nI (n := i) (by omega) (by omega)) ?_
    rw [nI_clamp (by omega), rwp_x (Nat.le_refl i) (fun k z1 z2 => by omega) (prow_92 i (by omega))]
    refine r_iinc1 (v := 1) dX10_init_190 (by decide) rfl ?_
    refine r_goto 167 dX10_init_193 (by decide) ?_
    rw [nI_1]
    exact ih (i + 1) (by omega)
set_option maxHeartbeats 4000000 in
theorem i_X10 (d : Nat) : xEx NoE true (d + 5) yX10_init [.ref 0] (SH.take (0 + 1), I00, J0, zr PI 0) none (SH.take 347, ICC, J0, PCC) := by
  have hr : ∀ k, PI 0 k = [2, 0, 0, 0, 3, 32, 45, 57, 69, 0, 81, 93, 0, 0, 94, 99, 102, 104, 107].getD k 0 := fun k => PI_r prow_0 k
  have hr2 : ∀ k, rwp PI 92 0 0 k = [2, 0, 0, 0, 3, 32, 45, 57, 69, 0, 81, 93, 0, 0, 94, 99, 102, 104, 107].getD k 0 := fun k => (rwp_o (by omega) k).trans (PI_r prow_0 k)
  refine x_enter cqX10_init [some (.ref 0), none] rfl (by simp [lg_sl, Value.category]) ?_
  rw [zr_up]
  refine r_aload_n dX10_init_0 rfl ?_
  refine r_oi dX10_init_1 olX10_1 (by simp [Value.category]) ?_
  refine r_aload_n dX10_init_4 rfl ?_
  refine r_sipush (v := 700) dX10_init_5 (by decide) ?_
  refine c_newa (q := 1) (m := 700) dX10_init_8 ⟨by decide, by decide, by decide⟩ rfl (by decide +kernel) (fun k => rfl) (fun k => (rwp_o (by omega) k).trans (PI_e prow_1 k)) ?_
  refine c_put (P := PI) (n := 0) (i := 0) (q := 1) dX10_init_10 flX10_9 ⟨_, _, _, rfl, Or.inr ⟨rfl, rfl, rfl⟩⟩ sh_0 (by omega) (by decide) rfl rfl (by omega) (fun z z1 z2 => (hr z).trans ((show ∀ z, z < 19 → 0 ≤ z → z < 0 → [2, 0, 0, 0, 3, 32, 45, 57, 69, 0, 81, 93, 0, 0, 94, 99, 102, 104, 107].getD z 0 = 0 from by decide) z (by omega) z1 z2)) (by rw [hr]; rfl) ?_
  refine r_aload_n dX10_init_13 rfl ?_
  refine r_iconst (v := -1) dX10_init_14 (by decide) ?_
  refine r_putI dX10_init_15 flX10_13 ⟨_, _, _, rfl, Or.inl rfl⟩ (tk sh_0 (by omega)) (by decide) rfl rfl rfl ?_
  refine r_aload_n dX10_init_18 rfl ?_
  refine c_new (q := 2) dX10_init_19 nlX10_17 ((by decide +kernel)) (fun k => zIA (by omega) k) ?_
  refine r_dup dX10_init_22 rfl ?_
  refine r_aload_n dX10_init_23 rfl ?_
  refine r_getR dX10_init_24 flX10_9 (tk sh_0 (by omega)) (by decide) rfl (v := 1) (by simp only [zr, rwp]; decide +kernel) ?_
  refine r_cI1 dX10_init_27 ilX10_19 (by simp [Value.category]) (i_X7 (fun a k z => zIA (by omega) k) (fun a k z1 z2 => rwp_o (by omega) k) d) ?_
  refine c_put (P := PI) (n := 0) (i := 1) (q := 2) dX10_init_30 flX10_22 ⟨_, _, _, rfl, Or.inr ⟨rfl, rfl, rfl⟩⟩ sh_0 (by omega) (by decide) rfl rfl (by omega) (fun z z1 z2 => (hr z).trans ((show ∀ z, z < 19 → 1 ≤ z → z < 4 → [2, 0, 0, 0, 3, 32, 45, 57, 69, 0, 81, 93, 0, 0, 94, 99, 102, 104, 107].getD z 0 = 0 from by decide) z (by omega) z1 z2)) (by rw [hr]; rfl) ?_
  refine r_aload_n dX10_init_33 rfl ?_
  refine c_new (q := 31) dX10_init_34 nlX10_26 (tl_s 31 (by decide)) (fun k => zIA2 (by omega) k) ?_
  refine r_dup dX10_init_37 rfl ?_
  refine r_cI0 dX10_init_38 ilX10_28 (by simp [Value.category]) (i_X6 (t := 31) (by decide) (fun a k z => zIA2 (by omega) k) (fun a k z1 z2 => rwp_o (by omega) k) (d + 1)) ?_
  refine c_put (P := PI) (n := 0) (i := 5) (q := 31) dX10_init_41 flX10_29 ⟨_, _, _, rfl, Or.inl rfl⟩ sh_0 (by omega) (by decide) rfl rfl (by omega) (fun z z1 z2 => (hr z).trans ((show ∀ z, z < 19 → 5 ≤ z → z < 5 → [2, 0, 0, 0, 3, 32, 45, 57, 69, 0, 81, 93, 0, 0, 94, 99, 102, 104, 107].getD z 0 = 0 from by decide) z (by omega) z1 z2)) (by rw [hr]; rfl) ?_
  refine r_aload_n dX10_init_44 rfl ?_
  refine c_new (q := 44) dX10_init_45 nlX10_33 (br_s 44 (by decide)) (fun k => zIB (by omega) k) ?_
  refine r_dup dX10_init_48 rfl ?_
  refine r_aload_n dX10_init_49 rfl ?_
  refine r_getR dX10_init_50 flX10_29 (tk sh_0 (by omega)) (by decide) rfl (v := 31) (by simp only [zr, rwp]; decide +kernel) ?_
  refine r_cI1 dX10_init_53 ilX10_35 (by simp [Value.category]) (i_X0 (b := 44) (by decide) (t := 31) (by decide +kernel) (fun a k z => zIB (by omega) k) (fun a k z1 z2 => rwp_o (by omega) k) (d + 2)) ?_
  refine c_put (P := PI) (n := 0) (i := 6) (q := 44) dX10_init_56 flX10_38 ⟨_, _, _, rfl, Or.inr ⟨rfl, rfl, rfl⟩⟩ sh_0 (by omega) (by decide) rfl rfl (by omega) (fun z z1 z2 => (hr z).trans ((show ∀ z, z < 19 → 6 ≤ z → z < 6 → [2, 0, 0, 0, 3, 32, 45, 57, 69, 0, 81, 93, 0, 0, 94, 99, 102, 104, 107].getD z 0 = 0 from by decide) z (by omega) z1 z2)) (by rw [hr]; rfl) ?_
  refine r_aload_n dX10_init_59 rfl ?_
  refine c_new (q := 56) dX10_init_60 nlX10_33 (br_s 56 (by decide)) (fun k => zIB (by omega) k) ?_
  refine r_dup dX10_init_63 rfl ?_
  refine r_aload_n dX10_init_64 rfl ?_
  refine r_getR dX10_init_65 flX10_29 (tk sh_0 (by omega)) (by decide) rfl (v := 31) (by simp only [zr, rwp]; decide +kernel) ?_
  refine r_cI1 dX10_init_68 ilX10_35 (by simp [Value.category]) (i_X0 (b := 56) (by decide) (t := 31) (by decide +kernel) (fun a k z => zIB (by omega) k) (fun a k z1 z2 => rwp_o (by omega) k) (d + 2)) ?_
  refine c_put (P := PI) (n := 0) (i := 7) (q := 56) dX10_init_71 flX10_42 ⟨_, _, _, rfl, Or.inr ⟨rfl, rfl, rfl⟩⟩ sh_0 (by omega) (by decide) rfl rfl (by omega) (fun z z1 z2 => (hr z).trans ((show ∀ z, z < 19 → 7 ≤ z → z < 7 → [2, 0, 0, 0, 3, 32, 45, 57, 69, 0, 81, 93, 0, 0, 94, 99, 102, 104, 107].getD z 0 = 0 from by decide) z (by omega) z1 z2)) (by rw [hr]; rfl) ?_
  refine r_aload_n dX10_init_74 rfl ?_
  refine c_new (q := 68) dX10_init_75 nlX10_33 (br_s 68 (by decide)) (fun k => zIB (by omega) k) ?_
  refine r_dup dX10_init_78 rfl ?_
  refine r_aload_n dX10_init_79 rfl ?_
  refine r_getR dX10_init_80 flX10_29 (tk sh_0 (by omega)) (by decide) rfl (v := 31) (by simp only [zr, rwp]; decide +kernel) ?_
  refine r_cI1 dX10_init_83 ilX10_35 (by simp [Value.category]) (i_X0 (b := 68) (by decide) (t := 31) (by decide +kernel) (fun a k z => zIB (by omega) k) (fun a k z1 z2 => rwp_o (by omega) k) (d + 2)) ?_
  refine c_put (P := PI) (n := 0) (i := 8) (q := 68) dX10_init_86 flX10_45 ⟨_, _, _, rfl, Or.inr ⟨rfl, rfl, rfl⟩⟩ sh_0 (by omega) (by decide) rfl rfl (by omega) (fun z z1 z2 => (hr z).trans ((show ∀ z, z < 19 → 8 ≤ z → z < 8 → [2, 0, 0, 0, 3, 32, 45, 57, 69, 0, 81, 93, 0, 0, 94, 99, 102, 104, 107].getD z 0 = 0 from by decide) z (by omega) z1 z2)) (by rw [hr]; rfl) ?_
  refine r_aload_n dX10_init_89 rfl ?_
  refine c_new (q := 80) dX10_init_90 nlX10_33 (br_s 80 (by decide)) (fun k => zIB (by omega) k) ?_
  refine r_dup dX10_init_93 rfl ?_
  refine r_aload_n dX10_init_94 rfl ?_
  refine r_getR dX10_init_95 flX10_29 (tk sh_0 (by omega)) (by decide) rfl (v := 31) (by simp only [zr, rwp]; decide +kernel) ?_
  refine r_cI1 dX10_init_98 ilX10_35 (by simp [Value.category]) (i_X0 (b := 80) (by decide) (t := 31) (by decide +kernel) (fun a k z => zIB (by omega) k) (fun a k z1 z2 => rwp_o (by omega) k) (d + 2)) ?_
  refine c_put (P := PI) (n := 0) (i := 9) (q := 80) dX10_init_101 flX10_48 ⟨_, _, _, rfl, Or.inr ⟨rfl, rfl, rfl⟩⟩ sh_0 (by omega) (by decide) rfl rfl (by omega) (fun z z1 z2 => (hr z).trans ((show ∀ z, z < 19 → 9 ≤ z → z < 10 → [2, 0, 0, 0, 3, 32, 45, 57, 69, 0, 81, 93, 0, 0, 94, 99, 102, 104, 107].getD z 0 = 0 from by decide) z (by omega) z1 z2)) (by rw [hr]; rfl) ?_
  refine r_aload_n dX10_init_104 rfl ?_
  refine r_bipush (v := 20) dX10_init_105 (by decide) ?_
  refine c_anew (q := 92) (m := 20) dX10_init_107 wcX10_33 ⟨by decide, by decide, by decide⟩ sh_92' (fun k => zIB (by omega) k) ?_
  rw [show zr (rwp PI 0 11) 92 = rwp (rwp PI 92 0) 0 11 from by
    funext a k
    unfold zr rwp
    by_cases e : a = 92
    · subst e; simp
    · simp [e]]
  refine c_put (P := (rwp PI 92 0)) (n := 0) (i := 11) (q := 92) dX10_init_110 flX10_51 ⟨_, _, _, rfl, Or.inr ⟨rfl, rfl, rfl⟩⟩ sh_0 (by omega) (by decide) rfl rfl (by omega) (fun z z1 z2 => (hr2 z).trans ((show ∀ z, z < 19 → 11 ≤ z → z < 11 → [2, 0, 0, 0, 3, 32, 45, 57, 69, 0, 81, 93, 0, 0, 94, 99, 102, 104, 107].getD z 0 = 0 from by decide) z (by omega) z1 z2)) (by rw [hr2]; rfl) ?_
  refine r_aload_n dX10_init_113 rfl ?_
  refine c_new (q := 93) dX10_init_114 nlX10_55 (by decide +kernel) (fun k => zIB (by omega) k) ?_
  refine r_dup dX10_init_117 rfl ?_
  refine r_cI0 dX10_init_118 ilX10_57 (by simp [Value.category]) (i_X5 (fun a k z => zIB (by omega) k) (fun a k z1 z2 => (rwp_o (by omega) k).trans (rwp_o (by omega) k)) (d + 3)) ?_
  refine c_put (P := (rwp PI 92 0)) (n := 0) (i := 12) (q := 93) dX10_init_121 flX10_58 ⟨_, _, _, rfl, Or.inr ⟨rfl, rfl, rfl⟩⟩ sh_0 (by omega) (by decide) rfl rfl (by omega) (fun z z1 z2 => (hr2 z).trans ((show ∀ z, z < 19 → 12 ≤ z → z < 14 → [2, 0, 0, 0, 3, 32, 45, 57, 69, 0, 81, 93, 0, 0, 94, 99, 102, 104, 107].getD z 0 = 0 from by decide) z (by omega) z1 z2)) (by rw [hr2]; rfl) ?_
  refine r_aload_n dX10_init_124 rfl ?_
  refine c_new (q := 98) dX10_init_125 nlX10_62 (by decide +kernel) (fun k => zIC (by omega) k) ?_
  refine r_dup dX10_init_128 rfl ?_
  refine r_cI0 dX10_init_129 ilX10_64 (by simp [Value.category]) (i_X9 (fun a k z => zIC (by omega) k) (fun a k z1 z2 => (rwp_o (by omega) k).trans (rwp_o (by omega) k)) (d + 3)) ?_
  refine c_put (P := (rwp PI 92 0)) (n := 0) (i := 15) (q := 98) dX10_init_132 flX10_65 ⟨_, _, _, rfl, Or.inr ⟨rfl, rfl, rfl⟩⟩ sh_0 (by omega) (by decide) rfl rfl (by omega) (fun z z1 z2 => (hr2 z).trans ((show ∀ z, z < 19 → 15 ≤ z → z < 15 → [2, 0, 0, 0, 3, 32, 45, 57, 69, 0, 81, 93, 0, 0, 94, 99, 102, 104, 107].getD z 0 = 0 from by decide) z (by omega) z1 z2)) (by rw [hr2]; rfl) ?_
  refine r_aload_n dX10_init_135 rfl ?_
  refine c_new (q := 101) dX10_init_136 nlX10_69 (by decide +kernel) (fun k => zIC (by omega) k) ?_
  refine r_dup dX10_init_139 rfl ?_
  refine r_cI0 dX10_init_140 ilX10_71 (by simp [Value.category]) (i_X3 (fun a k z => zIC (by omega) k) (fun a k z1 z2 => (rwp_o (by omega) k).trans (rwp_o (by omega) k)) (d + 3)) ?_
  refine c_put (P := (rwp PI 92 0)) (n := 0) (i := 16) (q := 101) dX10_init_143 flX10_72 ⟨_, _, _, rfl, Or.inr ⟨rfl, rfl, rfl⟩⟩ sh_0 (by omega) (by decide) rfl rfl (by omega) (fun z z1 z2 => (hr2 z).trans ((show ∀ z, z < 19 → 16 ≤ z → z < 16 → [2, 0, 0, 0, 3, 32, 45, 57, 69, 0, 81, 93, 0, 0, 94, 99, 102, 104, 107].getD z 0 = 0 from by decide) z (by omega) z1 z2)) (by rw [hr2]; rfl) ?_
  refine r_aload_n dX10_init_146 rfl ?_
  refine c_new (q := 103) dX10_init_147 nlX10_76 (by decide +kernel) (fun k => zIC (by omega) k) ?_
  refine r_dup dX10_init_150 rfl ?_
  refine r_cI0 dX10_init_151 ilX10_78 (by simp [Value.category]) (i_X4 (fun a k z => zIC (by omega) k) (fun a k z1 z2 => (rwp_o (by omega) k).trans (rwp_o (by omega) k)) (d + 3)) ?_
  refine c_put (P := (rwp PI 92 0)) (n := 0) (i := 17) (q := 103) dX10_init_154 flX10_79 ⟨_, _, _, rfl, Or.inr ⟨rfl, rfl, rfl⟩⟩ sh_0 (by omega) (by decide) rfl rfl (by omega) (fun z z1 z2 => (hr2 z).trans ((show ∀ z, z < 19 → 17 ≤ z → z < 17 → [2, 0, 0, 0, 3, 32, 45, 57, 69, 0, 81, 93, 0, 0, 94, 99, 102, 104, 107].getD z 0 = 0 from by decide) z (by omega) z1 z2)) (by rw [hr2]; rfl) ?_
  refine r_aload_n dX10_init_157 rfl ?_
  refine r_bipush (v := 11) dX10_init_158 (by decide) ?_
  refine c_newa (q := 106) (m := 11) dX10_init_160 ⟨by decide, by decide, by decide⟩ rfl (by decide +kernel) (fun k => zIC (by omega) k) (fun k => (rwp_o (by omega) k).trans ((rwp_o (by omega) k).trans (PI_e (prow_a104 2 (by omega)) k))) ?_
  refine c_put (P := (rwp PI 92 0)) (n := 0) (i := 18) (q := 106) dX10_init_162 flX10_83 ⟨_, _, _, rfl, Or.inr ⟨rfl, rfl, rfl⟩⟩ sh_0 (by omega) (by decide) rfl rfl (by omega) (fun z z1 z2 => (hr2 z).trans ((show ∀ z, z < 19 → 18 ≤ z → z < 18 → [2, 0, 0, 0, 3, 32, 45, 57, 69, 0, 81, 93, 0, 0, 94, 99, 102, 104, 107].getD z 0 = 0 from by decide) z (by omega) z1 z2)) (by rw [hr2]; rfl) ?_
  rw [rwp_end (P := rwp PI 92 0) (n := 0) (fun k hk => by rw [hr2]; exact gd_big (by simpa using hk))]
  refine r_iconst (v := 0) dX10_init_165 (by decide) ?_
  refine r_istore_n1 dX10_init_166 rfl ?_
  rw [show (0 : Int32) = nI 0 from rfl]
  refine i_loop (I := ICC) (fun a k z => zIC (by omega) k) (d + 2) ?_ 20 0 (by omega)
  exact r_vret dX10_init_196 rfl rfl rfl
