/-! the reference: a law's E by its knots -/
def rBd (e : Int32) (x : Int64) : Int32 × Int64 := if ¬ e = 0 ∨ 1000000000000 < x ∨ x < -1000000000000 then (1, 0) else (0, x)
theorem rBd_t {e : Int32} {x : Int64} (h : ¬ e = 0 ∨ 1000000000000 < x ∨ x < -1000000000000) : rBd e x = (1, 0) := if_pos h
theorem rBd_f {e : Int32} {x : Int64} (h : ¬ (¬ e = 0 ∨ 1000000000000 < x ∨ x < -1000000000000)) : rBd e x = (0, x) := if_neg h
def rAb (x : Int64) : Int64 := if x < 0 then -x else x
theorem neg0 {x : Int64} (q : -x = 0) : x = 0 := by
  have h : x = -(-x) := by simp
  rw [h, q]; rfl
theorem rAb_n {x : Int64} (h : ¬ 0 ≤ x) : rAb x = -x := if_pos (Int64.not_le.mp h)
theorem rAb_p {x : Int64} (h : 0 ≤ x) : rAb x = x := if_neg (Int64.not_lt.mpr h)
def rTm (e : Int32) (x z : Int64) : Int32 × Int64 := if ¬ e = 0 ∨ (¬ x = 0 ∧ ¬ z = 0 ∧ 1000000000000 / rAb x < rAb z) then (1, 0) else (0, x * z)
theorem rTm_t {e : Int32} {x z : Int64} (h : ¬ e = 0 ∨ (¬ x = 0 ∧ ¬ z = 0 ∧ 1000000000000 / rAb x < rAb z)) : rTm e x z = (1, 0) := if_pos h
theorem rTm_f {e : Int32} {x z : Int64} (h : ¬ (¬ e = 0 ∨ (¬ x = 0 ∧ ¬ z = 0 ∧ 1000000000000 / rAb x < rAb z))) : rTm e x z = (0, x * z) := if_neg h
def rDv (e : Int32) (x z : Int64) : Int32 × Int64 := if ¬ e = 0 ∨ z = 0 then (1, 0) else (0, x / z)
theorem rDv_t {e : Int32} {x z : Int64} (h : ¬ e = 0 ∨ z = 0) : rDv e x z = (1, 0) := if_pos h
theorem rDv_f {e : Int32} {x z : Int64} (h : ¬ (¬ e = 0 ∨ z = 0)) : rDv e x z = (0, x / z) := if_neg h
def rCp (k : Int32) (x z : Int64) : Int32 := if k = 5 then (if x < z then 1 else 0) else if k = 6 then (if x ≤ z then 1 else 0) else if k = 7 then (if x = z then 1 else 0) else if k = 8 then (if x = z then 0 else 1) else if k = 9 then (if z ≤ x then 1 else 0) else if z < x then 1 else 0
/-- what a knot is worth: the flag of an error, and the number -/
def rVo (k : Int32) (e : Int32) (x z : Int64) : Int32 × Int64 := if k = 3 then (e, if ¬ x = 0 ∧ ¬ z = 0 then 1 else 0) else if k = 4 then (e, if ¬ x = 0 ∨ ¬ z = 0 then 1 else 0) else if k = 11 then rBd e (x + z) else if k = 12 then rBd e (x - z) else if k = 13 then rTm e x z else if k = 14 then rDv e x z else (e, if rCp k x z = 0 then 0 else 1)
def rVl (kn pt ot : Nat → Int32) (N g : Nat → Int64) (e : Int32) (i : Nat) : Int32 × Int64 := if kn i = 0 then (e, (pt i).toInt64) else if kn i = 1 then (e, N (pt i).toNatClampNeg) else if kn i = 2 then (e, if g (pt i).toNatClampNeg = 0 then 1 else 0) else rVo (kn i) e (g (pt i).toNatClampNeg) (g (ot i).toNatClampNeg)
set_option maxHeartbeats 1000000 in
theorem k_bounded {E : xCl} {ex : Bool} {I : Nat → Nat → Int32} {e : Int32} {J : Nat → Nat → Int64} {P : Nat → Nat → Nat} (x : Int64) (d : Nat) : xEx E ex (d + 1) yX11_bounded [.ref 347, .long x] (SH, wE I e, J, P) (some (.long (rBd e x).2)) (SH, wE I (rBd e x).1, J, P) := by
  refine x_enter cqX11_bounded [some (.ref 347), some (.long x), none] rfl (by simp [lg_sl, Value.category]) ?_
  refine r_aload_n dX11_bounded_0 rfl ?_
  refine r_aload_n dX11_bounded_1 rfl ?_
  refine r_getIv dX11_bounded_2 flX11_371 sh_347 (by decide) rfl (wE_e _ _) ?_
  refine r_if_ne 24 dX11_bounded_5 (by decide) (fun c5 => ?_) (fun c5 => ?_)
  · refine r_iconst (v := 1) dX11_bounded_24 (by decide) ?_
    refine r_goto 29 dX11_bounded_25 (by decide) ?_
    refine r_putIv dX11_bounded_29 flX11_371 ⟨_, _, _, rfl, Or.inl rfl⟩ sh_347 (by decide) rfl rfl rfl (wE_x _ _ _) ?_
    refine r_aload_n dX11_bounded_32 rfl ?_
    refine r_getIv dX11_bounded_33 flX11_371 sh_347 (by decide) rfl (wE_e _ _) ?_
    refine r_if_eq 43 dX11_bounded_36 (by decide) (fun c36 => ?_) (fun c36 => ?_)
    · exact absurd c36 (by decide)
    · refine r_lconst (v := 0) dX11_bounded_39 (by decide) ?_
      refine r_goto 44 dX11_bounded_40 (by decide) ?_
      (have q := rBd_t (e := e) (x := x) (Or.inl c5); exact r_lret dX11_bounded_44 rfl (by rw [q]) (by rw [q]))
  · refine r_lload_n dX11_bounded_8 rfl ?_
    refine r_ldc2_w dX11_bounded_9 kcX11_374 ?_
    refine r_lcmp dX11_bounded_12 ?_
    refine r_if_gt 24 dX11_bounded_13 (by decide) (fun c13 => ?_) (fun c13 => ?_)
    · refine r_iconst (v := 1) dX11_bounded_24 (by decide) ?_
      refine r_goto 29 dX11_bounded_25 (by decide) ?_
      refine r_putIv dX11_bounded_29 flX11_371 ⟨_, _, _, rfl, Or.inl rfl⟩ sh_347 (by decide) rfl rfl rfl (wE_x _ _ _) ?_
      refine r_aload_n dX11_bounded_32 rfl ?_
      refine r_getIv dX11_bounded_33 flX11_371 sh_347 (by decide) rfl (wE_e _ _) ?_
      refine r_if_eq 43 dX11_bounded_36 (by decide) (fun c36 => ?_) (fun c36 => ?_)
      · exact absurd c36 (by decide)
      · refine r_lconst (v := 0) dX11_bounded_39 (by decide) ?_
        refine r_goto 44 dX11_bounded_40 (by decide) ?_
        (have q := rBd_t (e := e) (x := x) (Or.inr (Or.inl ((lg_cmp_gt _ _).mp c13))); exact r_lret dX11_bounded_44 rfl (by rw [q]) (by rw [q]))
    · refine r_lload_n dX11_bounded_16 rfl ?_
      refine r_ldc2_w dX11_bounded_17 kcX11_376 ?_
      refine r_lcmp dX11_bounded_20 ?_
      refine r_if_ge 28 dX11_bounded_21 (by decide) (fun c21 => ?_) (fun c21 => ?_)
      · refine r_iconst (v := 0) dX11_bounded_28 (by decide) ?_
        refine r_putIv dX11_bounded_29 flX11_371 ⟨_, _, _, rfl, Or.inl rfl⟩ sh_347 (by decide) rfl rfl rfl (wE_x _ _ _) ?_
        refine r_aload_n dX11_bounded_32 rfl ?_
        refine r_getIv dX11_bounded_33 flX11_371 sh_347 (by decide) rfl (wE_e _ _) ?_
        refine r_if_eq 43 dX11_bounded_36 (by decide) (fun c36 => ?_) (fun c36 => ?_)
        · refine r_lload_n dX11_bounded_43 rfl ?_
          (have q := rBd_f (e := e) (x := x) (fun z => z.elim (fun z => z c5) (fun z => z.elim (fun z => c13 ((lg_cmp_gt _ _).mpr z)) (fun z => Int64.not_le.mpr z ((lg_cmp_ge _ _).mp c21)))); exact r_lret dX11_bounded_44 rfl (by rw [q]) (by rw [q]))
        · exact absurd rfl c36
      · refine r_iconst (v := 1) dX11_bounded_24 (by decide) ?_
        refine r_goto 29 dX11_bounded_25 (by decide) ?_
        refine r_putIv dX11_bounded_29 flX11_371 ⟨_, _, _, rfl, Or.inl rfl⟩ sh_347 (by decide) rfl rfl rfl (wE_x _ _ _) ?_
        refine r_aload_n dX11_bounded_32 rfl ?_
        refine r_getIv dX11_bounded_33 flX11_371 sh_347 (by decide) rfl (wE_e _ _) ?_
        refine r_if_eq 43 dX11_bounded_36 (by decide) (fun c36 => ?_) (fun c36 => ?_)
        · exact absurd c36 (by decide)
        · refine r_lconst (v := 0) dX11_bounded_39 (by decide) ?_
          refine r_goto 44 dX11_bounded_40 (by decide) ?_
          (have q := rBd_t (e := e) (x := x) (Or.inr (Or.inr (Int64.not_le.mp (fun q => c21 ((lg_cmp_ge _ _).mpr q))))); exact r_lret dX11_bounded_44 rfl (by rw [q]) (by rw [q]))
theorem tsout_5_9 {k : Int32} (q0 : ¬ k = 5) (q1 : ¬ k = 6) (q2 : ¬ k = 7) (q3 : ¬ k = 8) (q4 : ¬ k = 9) : k.toInt < 5 ∨ 9 < k.toInt := by
  rcases Int.lt_or_le k.toInt 5 with h | h
  · exact Or.inl h
  · right
    apply Classical.byContradiction
    intro h2
    have h3 : k.toInt = 5 ∨ k.toInt = 6 ∨ k.toInt = 7 ∨ k.toInt = 8 ∨ k.toInt = 9 := by omega
    rcases h3 with h3 | h3 | h3 | h3 | h3
    · exact q0 (Int32.toInt_inj.mp (h3.trans (by decide)))
    · exact q1 (Int32.toInt_inj.mp (h3.trans (by decide)))
    · exact q2 (Int32.toInt_inj.mp (h3.trans (by decide)))
    · exact q3 (Int32.toInt_inj.mp (h3.trans (by decide)))
    · exact q4 (Int32.toInt_inj.mp (h3.trans (by decide)))
set_option maxHeartbeats 1000000 in
theorem k_compares {E : xCl} {ex : Bool} {I : Nat → Nat → Int32} {J : Nat → Nat → Int64} {P : Nat → Nat → Nat} (k : Int32) (x z : Int64) (d : Nat) : xEx E ex (d + 1) yX11_compares [.int k, .long x, .long z] (SH, I, J, P) (some (.int (rCp k x z))) (SH, I, J, P) := by
  refine x_enter cqX11_compares [some (.int k), some (.long x), none, some (.long z), none] rfl (by simp [lg_sl, Value.category]) ?_
  refine r_iload_n dX11_compares_0 rfl ?_
  by_cases q1_0 : k = 5
  · refine r_tsI 36 dX11_compares_1 (by rw [q1_0]; decide) (by rw [q1_0]; decide) (off := 35) (by rw [q1_0]; rfl) (by decide) ?_
    refine r_lload_n dX11_compares_36 rfl ?_
    refine r_lload_n dX11_compares_37 rfl ?_
    refine r_lcmp dX11_compares_38 ?_
    refine r_if_ge 46 dX11_compares_39 (by decide) (fun c39 => ?_) (fun c39 => ?_)
    · refine r_iconst (v := 0) dX11_compares_46 (by decide) ?_
      exact r_iret dX11_compares_47 rfl rfl (by simp_all [rCp, lg_cmp_eq, lg_cmp_ge, lg_cmp_gt, lg_cmp_lt, lg_cmp_le]) rfl
    · refine r_iconst (v := 1) dX11_compares_42 (by decide) ?_
      refine r_goto 47 dX11_compares_43 (by decide) ?_
      exact r_iret dX11_compares_47 rfl rfl (by simp_all [rCp, lg_cmp_eq, lg_cmp_ge, lg_cmp_gt, lg_cmp_lt, lg_cmp_le]) rfl
  by_cases q1_1 : k = 6
  · refine r_tsI 48 dX11_compares_1 (by rw [q1_1]; decide) (by rw [q1_1]; decide) (off := 47) (by rw [q1_1]; rfl) (by decide) ?_
    refine r_lload_n dX11_compares_48 rfl ?_
    refine r_lload_n dX11_compares_49 rfl ?_
    refine r_lcmp dX11_compares_50 ?_
    refine r_if_gt 58 dX11_compares_51 (by decide) (fun c51 => ?_) (fun c51 => ?_)
    · refine r_iconst (v := 0) dX11_compares_58 (by decide) ?_
      exact r_iret dX11_compares_59 rfl rfl (by simp_all [rCp, lg_cmp_eq, lg_cmp_ge, lg_cmp_gt, lg_cmp_lt, lg_cmp_le]) rfl
    · refine r_iconst (v := 1) dX11_compares_54 (by decide) ?_
      refine r_goto 59 dX11_compares_55 (by decide) ?_
      exact r_iret dX11_compares_59 rfl rfl (by simp_all [rCp, lg_cmp_eq, lg_cmp_ge, lg_cmp_gt, lg_cmp_lt, lg_cmp_le]) rfl
  by_cases q1_2 : k = 7
  · refine r_tsI 60 dX11_compares_1 (by rw [q1_2]; decide) (by rw [q1_2]; decide) (off := 59) (by rw [q1_2]; rfl) (by decide) ?_
    refine r_lload_n dX11_compares_60 rfl ?_
    refine r_lload_n dX11_compares_61 rfl ?_
    refine r_lcmp dX11_compares_62 ?_
    refine r_if_ne 70 dX11_compares_63 (by decide) (fun c63 => ?_) (fun c63 => ?_)
    · refine r_iconst (v := 0) dX11_compares_70 (by decide) ?_
      exact r_iret dX11_compares_71 rfl rfl (by simp_all [rCp, lg_cmp_eq, lg_cmp_ge, lg_cmp_gt, lg_cmp_lt, lg_cmp_le]) rfl
    · refine r_iconst (v := 1) dX11_compares_66 (by decide) ?_
      refine r_goto 71 dX11_compares_67 (by decide) ?_
      exact r_iret dX11_compares_71 rfl rfl (by simp_all [rCp, lg_cmp_eq, lg_cmp_ge, lg_cmp_gt, lg_cmp_lt, lg_cmp_le]) rfl
  by_cases q1_3 : k = 8
  · refine r_tsI 72 dX11_compares_1 (by rw [q1_3]; decide) (by rw [q1_3]; decide) (off := 71) (by rw [q1_3]; rfl) (by decide) ?_
    refine r_lload_n dX11_compares_72 rfl ?_
    refine r_lload_n dX11_compares_73 rfl ?_
    refine r_lcmp dX11_compares_74 ?_
    refine r_if_eq 82 dX11_compares_75 (by decide) (fun c75 => ?_) (fun c75 => ?_)
    · refine r_iconst (v := 0) dX11_compares_82 (by decide) ?_
      exact r_iret dX11_compares_83 rfl rfl (by simp_all [rCp, lg_cmp_eq, lg_cmp_ge, lg_cmp_gt, lg_cmp_lt, lg_cmp_le]) rfl
    · refine r_iconst (v := 1) dX11_compares_78 (by decide) ?_
      refine r_goto 83 dX11_compares_79 (by decide) ?_
      exact r_iret dX11_compares_83 rfl rfl (by simp_all [rCp, lg_cmp_eq, lg_cmp_ge, lg_cmp_gt, lg_cmp_lt, lg_cmp_le]) rfl
  by_cases q1_4 : k = 9
  · refine r_tsI 84 dX11_compares_1 (by rw [q1_4]; decide) (by rw [q1_4]; decide) (off := 83) (by rw [q1_4]; rfl) (by decide) ?_
    refine r_lload_n dX11_compares_84 rfl ?_
    refine r_lload_n dX11_compares_85 rfl ?_
    refine r_lcmp dX11_compares_86 ?_
    refine r_if_lt 94 dX11_compares_87 (by decide) (fun c87 => ?_) (fun c87 => ?_)
    · refine r_iconst (v := 0) dX11_compares_94 (by decide) ?_
      exact r_iret dX11_compares_95 rfl rfl (by simp_all [rCp, lg_cmp_eq, lg_cmp_ge, lg_cmp_gt, lg_cmp_lt, lg_cmp_le]) rfl
    · refine r_iconst (v := 1) dX11_compares_90 (by decide) ?_
      refine r_goto 95 dX11_compares_91 (by decide) ?_
      exact r_iret dX11_compares_95 rfl rfl (by simp_all [rCp, lg_cmp_eq, lg_cmp_ge, lg_cmp_gt, lg_cmp_lt, lg_cmp_le]) rfl
  refine r_tsO 96 dX11_compares_1 (tsout_5_9 q1_0 q1_1 q1_2 q1_3 q1_4) (by decide) ?_
  refine r_lload_n dX11_compares_96 rfl ?_
  refine r_lload_n dX11_compares_97 rfl ?_
  refine r_lcmp dX11_compares_98 ?_
  refine r_if_le 106 dX11_compares_99 (by decide) (fun c99 => ?_) (fun c99 => ?_)
  · refine r_iconst (v := 0) dX11_compares_106 (by decide) ?_
    exact r_iret dX11_compares_107 rfl rfl (by simp_all [rCp, lg_cmp_eq, lg_cmp_ge, lg_cmp_gt, lg_cmp_lt, lg_cmp_le]) rfl
  · refine r_iconst (v := 1) dX11_compares_102 (by decide) ?_
    refine r_goto 107 dX11_compares_103 (by decide) ?_
    exact r_iret dX11_compares_107 rfl rfl (by simp_all [rCp, lg_cmp_eq, lg_cmp_ge, lg_cmp_gt, lg_cmp_lt, lg_cmp_le]) rfl
set_option maxHeartbeats 1000000 in
theorem k_times {E : xCl} {ex : Bool} {I : Nat → Nat → Int32} {e : Int32} {J : Nat → Nat → Int64} {P : Nat → Nat → Nat} (x z : Int64) (d : Nat) : xEx E ex (d + 1) yX11_times [.ref 347, .long x, .long z] (SH, wE I e, J, P) (some (.long (rTm e x z).2)) (SH, wE I (rTm e x z).1, J, P) := by
  refine x_enter cqX11_times [some (.ref 347), some (.long x), none, some (.long z), none, none] rfl (by simp [lg_sl, Value.category]) ?_
  refine r_lload_n dX11_times_0 rfl ?_
  refine r_lconst (v := 0) dX11_times_1 (by decide) ?_
  refine r_lcmp dX11_times_2 ?_
  refine r_if_eq 48 dX11_times_3 (by decide) (fun c3 => ?_) (fun c3 => ?_)
  · refine r_iconst (v := 0) dX11_times_48 (by decide) ?_
    refine r_istore5 dX11_times_49 rfl ?_
    refine r_aload_n dX11_times_51 rfl ?_
    refine r_aload_n dX11_times_52 rfl ?_
    refine r_getIv dX11_times_53 flX11_371 sh_347 (by decide) rfl (wE_e _ _) ?_
    refine r_if_ne 64 dX11_times_56 (by decide) (fun c56 => ?_) (fun c56 => ?_)
    · refine r_iconst (v := 1) dX11_times_64 (by decide) ?_
      refine r_goto 69 dX11_times_65 (by decide) ?_
      refine r_putIv dX11_times_69 flX11_371 ⟨_, _, _, rfl, Or.inl rfl⟩ sh_347 (by decide) rfl rfl rfl (wE_x _ _ _) ?_
      refine r_aload_n dX11_times_72 rfl ?_
      refine r_getIv dX11_times_73 flX11_371 sh_347 (by decide) rfl (wE_e _ _) ?_
      refine r_if_eq 83 dX11_times_76 (by decide) (fun c76 => ?_) (fun c76 => ?_)
      · exact absurd c76 (by decide)
      · refine r_lconst (v := 0) dX11_times_79 (by decide) ?_
        refine r_goto 86 dX11_times_80 (by decide) ?_
        (have q := rTm_t (e := e) (x := x) (z := z) (Or.inl c56); exact r_lret dX11_times_86 rfl (by rw [q]) (by rw [q]))
    · refine r_iload dX11_times_59 rfl ?_
      refine r_if_eq 68 dX11_times_61 (by decide) (fun c61 => ?_) (fun c61 => ?_)
      · refine r_iconst (v := 0) dX11_times_68 (by decide) ?_
        refine r_putIv dX11_times_69 flX11_371 ⟨_, _, _, rfl, Or.inl rfl⟩ sh_347 (by decide) rfl rfl rfl (wE_x _ _ _) ?_
        refine r_aload_n dX11_times_72 rfl ?_
        refine r_getIv dX11_times_73 flX11_371 sh_347 (by decide) rfl (wE_e _ _) ?_
        refine r_if_eq 83 dX11_times_76 (by decide) (fun c76 => ?_) (fun c76 => ?_)
        · refine r_lload_n dX11_times_83 rfl ?_
          refine r_lload_n dX11_times_84 rfl ?_
          refine r_lmul dX11_times_85 ?_
          (have q := rTm_f (e := e) (x := x) (z := z) (fun z => z.elim (fun z => z c56) (fun z => z.1 ((lg_cmp_eq _ _).mp c3))); exact r_lret dX11_times_86 rfl (by rw [q]) (by rw [q]))
        · exact absurd rfl c76
      · exact absurd c61 (by decide)
  · refine r_lload_n dX11_times_6 rfl ?_
    refine r_lconst (v := 0) dX11_times_7 (by decide) ?_
    refine r_lcmp dX11_times_8 ?_
    refine r_if_eq 48 dX11_times_9 (by decide) (fun c9 => ?_) (fun c9 => ?_)
    · refine r_iconst (v := 0) dX11_times_48 (by decide) ?_
      refine r_istore5 dX11_times_49 rfl ?_
      refine r_aload_n dX11_times_51 rfl ?_
      refine r_aload_n dX11_times_52 rfl ?_
      refine r_getIv dX11_times_53 flX11_371 sh_347 (by decide) rfl (wE_e _ _) ?_
      refine r_if_ne 64 dX11_times_56 (by decide) (fun c56 => ?_) (fun c56 => ?_)
      · refine r_iconst (v := 1) dX11_times_64 (by decide) ?_
        refine r_goto 69 dX11_times_65 (by decide) ?_
        refine r_putIv dX11_times_69 flX11_371 ⟨_, _, _, rfl, Or.inl rfl⟩ sh_347 (by decide) rfl rfl rfl (wE_x _ _ _) ?_
        refine r_aload_n dX11_times_72 rfl ?_
        refine r_getIv dX11_times_73 flX11_371 sh_347 (by decide) rfl (wE_e _ _) ?_
        refine r_if_eq 83 dX11_times_76 (by decide) (fun c76 => ?_) (fun c76 => ?_)
        · exact absurd c76 (by decide)
        · refine r_lconst (v := 0) dX11_times_79 (by decide) ?_
          refine r_goto 86 dX11_times_80 (by decide) ?_
          (have q := rTm_t (e := e) (x := x) (z := z) (Or.inl c56); exact r_lret dX11_times_86 rfl (by rw [q]) (by rw [q]))
      · refine r_iload dX11_times_59 rfl ?_
        refine r_if_eq 68 dX11_times_61 (by decide) (fun c61 => ?_) (fun c61 => ?_)
        · refine r_iconst (v := 0) dX11_times_68 (by decide) ?_
          refine r_putIv dX11_times_69 flX11_371 ⟨_, _, _, rfl, Or.inl rfl⟩ sh_347 (by decide) rfl rfl rfl (wE_x _ _ _) ?_
          refine r_aload_n dX11_times_72 rfl ?_
          refine r_getIv dX11_times_73 flX11_371 sh_347 (by decide) rfl (wE_e _ _) ?_
          refine r_if_eq 83 dX11_times_76 (by decide) (fun c76 => ?_) (fun c76 => ?_)
          · refine r_lload_n dX11_times_83 rfl ?_
            refine r_lload_n dX11_times_84 rfl ?_
            refine r_lmul dX11_times_85 ?_
            (have q := rTm_f (e := e) (x := x) (z := z) (fun z => z.elim (fun z => z c56) (fun z => z.2.1 ((lg_cmp_eq _ _).mp c9))); exact r_lret dX11_times_86 rfl (by rw [q]) (by rw [q]))
          · exact absurd rfl c76
        · exact absurd c61 (by decide)
    · refine r_lload_n dX11_times_12 rfl ?_
      refine r_lconst (v := 0) dX11_times_13 (by decide) ?_
      refine r_lcmp dX11_times_14 ?_
      refine r_if_ge 23 dX11_times_15 (by decide) (fun c15 => ?_) (fun c15 => ?_)
      · refine r_lload_n dX11_times_23 rfl ?_
        refine r_ldc2_w dX11_times_24 kcX11_374 ?_
        refine r_lload_n dX11_times_27 rfl ?_
        refine r_lconst (v := 0) dX11_times_28 (by decide) ?_
        refine r_lcmp dX11_times_29 ?_
        refine r_if_ge 38 dX11_times_30 (by decide) (fun c30 => ?_) (fun c30 => ?_)
        · refine r_lload_n dX11_times_38 rfl ?_
          refine r_ldiv dX11_times_39 (fun q => c3 ((lg_cmp_eq _ _).mpr q)) ?_
          refine r_lcmp dX11_times_40 ?_
          refine r_if_le 48 dX11_times_41 (by decide) (fun c41 => ?_) (fun c41 => ?_)
          · refine r_iconst (v := 0) dX11_times_48 (by decide) ?_
            refine r_istore5 dX11_times_49 rfl ?_
            refine r_aload_n dX11_times_51 rfl ?_
            refine r_aload_n dX11_times_52 rfl ?_
            refine r_getIv dX11_times_53 flX11_371 sh_347 (by decide) rfl (wE_e _ _) ?_
            refine r_if_ne 64 dX11_times_56 (by decide) (fun c56 => ?_) (fun c56 => ?_)
            · refine r_iconst (v := 1) dX11_times_64 (by decide) ?_
              refine r_goto 69 dX11_times_65 (by decide) ?_
              refine r_putIv dX11_times_69 flX11_371 ⟨_, _, _, rfl, Or.inl rfl⟩ sh_347 (by decide) rfl rfl rfl (wE_x _ _ _) ?_
              refine r_aload_n dX11_times_72 rfl ?_
              refine r_getIv dX11_times_73 flX11_371 sh_347 (by decide) rfl (wE_e _ _) ?_
              refine r_if_eq 83 dX11_times_76 (by decide) (fun c76 => ?_) (fun c76 => ?_)
              · exact absurd c76 (by decide)
              · refine r_lconst (v := 0) dX11_times_79 (by decide) ?_
                refine r_goto 86 dX11_times_80 (by decide) ?_
                (have q := rTm_t (e := e) (x := x) (z := z) (Or.inl c56); exact r_lret dX11_times_86 rfl (by rw [q]) (by rw [q]))
            · refine r_iload dX11_times_59 rfl ?_
              refine r_if_eq 68 dX11_times_61 (by decide) (fun c61 => ?_) (fun c61 => ?_)
              · refine r_iconst (v := 0) dX11_times_68 (by decide) ?_
                refine r_putIv dX11_times_69 flX11_371 ⟨_, _, _, rfl, Or.inl rfl⟩ sh_347 (by decide) rfl rfl rfl (wE_x _ _ _) ?_
                refine r_aload_n dX11_times_72 rfl ?_
                refine r_getIv dX11_times_73 flX11_371 sh_347 (by decide) rfl (wE_e _ _) ?_
                refine r_if_eq 83 dX11_times_76 (by decide) (fun c76 => ?_) (fun c76 => ?_)
                · refine r_lload_n dX11_times_83 rfl ?_
                  refine r_lload_n dX11_times_84 rfl ?_
                  refine r_lmul dX11_times_85 ?_
                  (have q := rTm_f (e := e) (x := x) (z := z) (fun z => z.elim (fun z => z c56) (fun z => Int64.not_lt.mpr ((lg_cmp_le _ _).mp c41) (by have z := z.2.2; rw [rAb_p ((lg_cmp_ge _ _).mp c30), rAb_p ((lg_cmp_ge _ _).mp c15)] at z; exact z))); exact r_lret dX11_times_86 rfl (by rw [q]) (by rw [q]))
                · exact absurd rfl c76
              · exact absurd c61 (by decide)
          · refine r_iconst (v := 1) dX11_times_44 (by decide) ?_
            refine r_goto 49 dX11_times_45 (by decide) ?_
            refine r_istore5 dX11_times_49 rfl ?_
            refine r_aload_n dX11_times_51 rfl ?_
            refine r_aload_n dX11_times_52 rfl ?_
            refine r_getIv dX11_times_53 flX11_371 sh_347 (by decide) rfl (wE_e _ _) ?_
            refine r_if_ne 64 dX11_times_56 (by decide) (fun c56 => ?_) (fun c56 => ?_)
            · refine r_iconst (v := 1) dX11_times_64 (by decide) ?_
              refine r_goto 69 dX11_times_65 (by decide) ?_
              refine r_putIv dX11_times_69 flX11_371 ⟨_, _, _, rfl, Or.inl rfl⟩ sh_347 (by decide) rfl rfl rfl (wE_x _ _ _) ?_
              refine r_aload_n dX11_times_72 rfl ?_
              refine r_getIv dX11_times_73 flX11_371 sh_347 (by decide) rfl (wE_e _ _) ?_
              refine r_if_eq 83 dX11_times_76 (by decide) (fun c76 => ?_) (fun c76 => ?_)
              · exact absurd c76 (by decide)
              · refine r_lconst (v := 0) dX11_times_79 (by decide) ?_
                refine r_goto 86 dX11_times_80 (by decide) ?_
                (have q := rTm_t (e := e) (x := x) (z := z) (Or.inl c56); exact r_lret dX11_times_86 rfl (by rw [q]) (by rw [q]))
            · refine r_iload dX11_times_59 rfl ?_
              refine r_if_eq 68 dX11_times_61 (by decide) (fun c61 => ?_) (fun c61 => ?_)
              · exact absurd c61 (by decide)
              · refine r_iconst (v := 1) dX11_times_64 (by decide) ?_
                refine r_goto 69 dX11_times_65 (by decide) ?_
                refine r_putIv dX11_times_69 flX11_371 ⟨_, _, _, rfl, Or.inl rfl⟩ sh_347 (by decide) rfl rfl rfl (wE_x _ _ _) ?_
                refine r_aload_n dX11_times_72 rfl ?_
                refine r_getIv dX11_times_73 flX11_371 sh_347 (by decide) rfl (wE_e _ _) ?_
                refine r_if_eq 83 dX11_times_76 (by decide) (fun c76 => ?_) (fun c76 => ?_)
                · exact absurd c76 (by decide)
                · refine r_lconst (v := 0) dX11_times_79 (by decide) ?_
                  refine r_goto 86 dX11_times_80 (by decide) ?_
                  (have q := rTm_t (e := e) (x := x) (z := z) (Or.inr ⟨fun q => c3 ((lg_cmp_eq _ _).mpr q), fun q => c9 ((lg_cmp_eq _ _).mpr q), by rw [rAb_p ((lg_cmp_ge _ _).mp c30), rAb_p ((lg_cmp_ge _ _).mp c15)]; exact Int64.not_le.mp (fun q => c41 ((lg_cmp_le _ _).mpr q))⟩); exact r_lret dX11_times_86 rfl (by rw [q]) (by rw [q]))
        · refine r_lload_n dX11_times_33 rfl ?_
          refine r_lneg dX11_times_34 ?_
          refine r_goto 39 dX11_times_35 (by decide) ?_
          refine r_ldiv dX11_times_39 (fun q => c3 ((lg_cmp_eq _ _).mpr (neg0 q))) ?_
          refine r_lcmp dX11_times_40 ?_
          refine r_if_le 48 dX11_times_41 (by decide) (fun c41 => ?_) (fun c41 => ?_)
          · refine r_iconst (v := 0) dX11_times_48 (by decide) ?_
            refine r_istore5 dX11_times_49 rfl ?_
            refine r_aload_n dX11_times_51 rfl ?_
            refine r_aload_n dX11_times_52 rfl ?_
            refine r_getIv dX11_times_53 flX11_371 sh_347 (by decide) rfl (wE_e _ _) ?_
            refine r_if_ne 64 dX11_times_56 (by decide) (fun c56 => ?_) (fun c56 => ?_)
            · refine r_iconst (v := 1) dX11_times_64 (by decide) ?_
              refine r_goto 69 dX11_times_65 (by decide) ?_
              refine r_putIv dX11_times_69 flX11_371 ⟨_, _, _, rfl, Or.inl rfl⟩ sh_347 (by decide) rfl rfl rfl (wE_x _ _ _) ?_
              refine r_aload_n dX11_times_72 rfl ?_
              refine r_getIv dX11_times_73 flX11_371 sh_347 (by decide) rfl (wE_e _ _) ?_
              refine r_if_eq 83 dX11_times_76 (by decide) (fun c76 => ?_) (fun c76 => ?_)
              · exact absurd c76 (by decide)
              · refine r_lconst (v := 0) dX11_times_79 (by decide) ?_
                refine r_goto 86 dX11_times_80 (by decide) ?_
                (have q := rTm_t (e := e) (x := x) (z := z) (Or.inl c56); exact r_lret dX11_times_86 rfl (by rw [q]) (by rw [q]))
            · refine r_iload dX11_times_59 rfl ?_
              refine r_if_eq 68 dX11_times_61 (by decide) (fun c61 => ?_) (fun c61 => ?_)
              · refine r_iconst (v := 0) dX11_times_68 (by decide) ?_
                refine r_putIv dX11_times_69 flX11_371 ⟨_, _, _, rfl, Or.inl rfl⟩ sh_347 (by decide) rfl rfl rfl (wE_x _ _ _) ?_
                refine r_aload_n dX11_times_72 rfl ?_
                refine r_getIv dX11_times_73 flX11_371 sh_347 (by decide) rfl (wE_e _ _) ?_
                refine r_if_eq 83 dX11_times_76 (by decide) (fun c76 => ?_) (fun c76 => ?_)
                · refine r_lload_n dX11_times_83 rfl ?_
                  refine r_lload_n dX11_times_84 rfl ?_
                  refine r_lmul dX11_times_85 ?_
                  (have q := rTm_f (e := e) (x := x) (z := z) (fun z => z.elim (fun z => z c56) (fun z => Int64.not_lt.mpr ((lg_cmp_le _ _).mp c41) (by have z := z.2.2; rw [rAb_n (fun q => c30 ((lg_cmp_ge _ _).mpr q)), rAb_p ((lg_cmp_ge _ _).mp c15)] at z; exact z))); exact r_lret dX11_times_86 rfl (by rw [q]) (by rw [q]))
                · exact absurd rfl c76
              · exact absurd c61 (by decide)
          · refine r_iconst (v := 1) dX11_times_44 (by decide) ?_
            refine r_goto 49 dX11_times_45 (by decide) ?_
            refine r_istore5 dX11_times_49 rfl ?_
            refine r_aload_n dX11_times_51 rfl ?_
            refine r_aload_n dX11_times_52 rfl ?_
            refine r_getIv dX11_times_53 flX11_371 sh_347 (by decide) rfl (wE_e _ _) ?_
            refine r_if_ne 64 dX11_times_56 (by decide) (fun c56 => ?_) (fun c56 => ?_)
            · refine r_iconst (v := 1) dX11_times_64 (by decide) ?_
              refine r_goto 69 dX11_times_65 (by decide) ?_
              refine r_putIv dX11_times_69 flX11_371 ⟨_, _, _, rfl, Or.inl rfl⟩ sh_347 (by decide) rfl rfl rfl (wE_x _ _ _) ?_
              refine r_aload_n dX11_times_72 rfl ?_
              refine r_getIv dX11_times_73 flX11_371 sh_347 (by decide) rfl (wE_e _ _) ?_
              refine r_if_eq 83 dX11_times_76 (by decide) (fun c76 => ?_) (fun c76 => ?_)
              · exact absurd c76 (by decide)
              · refine r_lconst (v := 0) dX11_times_79 (by decide) ?_
                refine r_goto 86 dX11_times_80 (by decide) ?_
                (have q := rTm_t (e := e) (x := x) (z := z) (Or.inl c56); exact r_lret dX11_times_86 rfl (by rw [q]) (by rw [q]))
            · refine r_iload dX11_times_59 rfl ?_
              refine r_if_eq 68 dX11_times_61 (by decide) (fun c61 => ?_) (fun c61 => ?_)
              · exact absurd c61 (by decide)
              · refine r_iconst (v := 1) dX11_times_64 (by decide) ?_
                refine r_goto 69 dX11_times_65 (by decide) ?_
                refine r_putIv dX11_times_69 flX11_371 ⟨_, _, _, rfl, Or.inl rfl⟩ sh_347 (by decide) rfl rfl rfl (wE_x _ _ _) ?_
                refine r_aload_n dX11_times_72 rfl ?_
                refine r_getIv dX11_times_73 flX11_371 sh_347 (by decide) rfl (wE_e _ _) ?_
                refine r_if_eq 83 dX11_times_76 (by decide) (fun c76 => ?_) (fun c76 => ?_)
                · exact absurd c76 (by decide)
                · refine r_lconst (v := 0) dX11_times_79 (by decide) ?_
                  refine r_goto 86 dX11_times_80 (by decide) ?_
                  (have q := rTm_t (e := e) (x := x) (z := z) (Or.inr ⟨fun q => c3 ((lg_cmp_eq _ _).mpr q), fun q => c9 ((lg_cmp_eq _ _).mpr q), by rw [rAb_n (fun q => c30 ((lg_cmp_ge _ _).mpr q)), rAb_p ((lg_cmp_ge _ _).mp c15)]; exact Int64.not_le.mp (fun q => c41 ((lg_cmp_le _ _).mpr q))⟩); exact r_lret dX11_times_86 rfl (by rw [q]) (by rw [q]))
      · refine r_lload_n dX11_times_18 rfl ?_
        refine r_lneg dX11_times_19 ?_
        refine r_goto 24 dX11_times_20 (by decide) ?_
        refine r_ldc2_w dX11_times_24 kcX11_374 ?_
        refine r_lload_n dX11_times_27 rfl ?_
        refine r_lconst (v := 0) dX11_times_28 (by decide) ?_
        refine r_lcmp dX11_times_29 ?_
        refine r_if_ge 38 dX11_times_30 (by decide) (fun c30 => ?_) (fun c30 => ?_)
        · refine r_lload_n dX11_times_38 rfl ?_
          refine r_ldiv dX11_times_39 (fun q => c3 ((lg_cmp_eq _ _).mpr q)) ?_
          refine r_lcmp dX11_times_40 ?_
          refine r_if_le 48 dX11_times_41 (by decide) (fun c41 => ?_) (fun c41 => ?_)
          · refine r_iconst (v := 0) dX11_times_48 (by decide) ?_
            refine r_istore5 dX11_times_49 rfl ?_
            refine r_aload_n dX11_times_51 rfl ?_
            refine r_aload_n dX11_times_52 rfl ?_
            refine r_getIv dX11_times_53 flX11_371 sh_347 (by decide) rfl (wE_e _ _) ?_
            refine r_if_ne 64 dX11_times_56 (by decide) (fun c56 => ?_) (fun c56 => ?_)
            · refine r_iconst (v := 1) dX11_times_64 (by decide) ?_
              refine r_goto 69 dX11_times_65 (by decide) ?_
              refine r_putIv dX11_times_69 flX11_371 ⟨_, _, _, rfl, Or.inl rfl⟩ sh_347 (by decide) rfl rfl rfl (wE_x _ _ _) ?_
              refine r_aload_n dX11_times_72 rfl ?_
              refine r_getIv dX11_times_73 flX11_371 sh_347 (by decide) rfl (wE_e _ _) ?_
              refine r_if_eq 83 dX11_times_76 (by decide) (fun c76 => ?_) (fun c76 => ?_)
              · exact absurd c76 (by decide)
              · refine r_lconst (v := 0) dX11_times_79 (by decide) ?_
                refine r_goto 86 dX11_times_80 (by decide) ?_
                (have q := rTm_t (e := e) (x := x) (z := z) (Or.inl c56); exact r_lret dX11_times_86 rfl (by rw [q]) (by rw [q]))
            · refine r_iload dX11_times_59 rfl ?_
              refine r_if_eq 68 dX11_times_61 (by decide) (fun c61 => ?_) (fun c61 => ?_)
              · refine r_iconst (v := 0) dX11_times_68 (by decide) ?_
                refine r_putIv dX11_times_69 flX11_371 ⟨_, _, _, rfl, Or.inl rfl⟩ sh_347 (by decide) rfl rfl rfl (wE_x _ _ _) ?_
                refine r_aload_n dX11_times_72 rfl ?_
                refine r_getIv dX11_times_73 flX11_371 sh_347 (by decide) rfl (wE_e _ _) ?_
                refine r_if_eq 83 dX11_times_76 (by decide) (fun c76 => ?_) (fun c76 => ?_)
                · refine r_lload_n dX11_times_83 rfl ?_
                  refine r_lload_n dX11_times_84 rfl ?_
                  refine r_lmul dX11_times_85 ?_
                  (have q := rTm_f (e := e) (x := x) (z := z) (fun z => z.elim (fun z => z c56) (fun z => Int64.not_lt.mpr ((lg_cmp_le _ _).mp c41) (by have z := z.2.2; rw [rAb_p ((lg_cmp_ge _ _).mp c30), rAb_n (fun q => c15 ((lg_cmp_ge _ _).mpr q))] at z; exact z))); exact r_lret dX11_times_86 rfl (by rw [q]) (by rw [q]))
                · exact absurd rfl c76
              · exact absurd c61 (by decide)
          · refine r_iconst (v := 1) dX11_times_44 (by decide) ?_
            refine r_goto 49 dX11_times_45 (by decide) ?_
            refine r_istore5 dX11_times_49 rfl ?_
            refine r_aload_n dX11_times_51 rfl ?_
            refine r_aload_n dX11_times_52 rfl ?_
            refine r_getIv dX11_times_53 flX11_371 sh_347 (by decide) rfl (wE_e _ _) ?_
            refine r_if_ne 64 dX11_times_56 (by decide) (fun c56 => ?_) (fun c56 => ?_)
            · refine r_iconst (v := 1) dX11_times_64 (by decide) ?_
              refine r_goto 69 dX11_times_65 (by decide) ?_
              refine r_putIv dX11_times_69 flX11_371 ⟨_, _, _, rfl, Or.inl rfl⟩ sh_347 (by decide) rfl rfl rfl (wE_x _ _ _) ?_
              refine r_aload_n dX11_times_72 rfl ?_
              refine r_getIv dX11_times_73 flX11_371 sh_347 (by decide) rfl (wE_e _ _) ?_
              refine r_if_eq 83 dX11_times_76 (by decide) (fun c76 => ?_) (fun c76 => ?_)
              · exact absurd c76 (by decide)
              · refine r_lconst (v := 0) dX11_times_79 (by decide) ?_
                refine r_goto 86 dX11_times_80 (by decide) ?_
                (have q := rTm_t (e := e) (x := x) (z := z) (Or.inl c56); exact r_lret dX11_times_86 rfl (by rw [q]) (by rw [q]))
            · refine r_iload dX11_times_59 rfl ?_
              refine r_if_eq 68 dX11_times_61 (by decide) (fun c61 => ?_) (fun c61 => ?_)
              · exact absurd c61 (by decide)
              · refine r_iconst (v := 1) dX11_times_64 (by decide) ?_
                refine r_goto 69 dX11_times_65 (by decide) ?_
                refine r_putIv dX11_times_69 flX11_371 ⟨_, _, _, rfl, Or.inl rfl⟩ sh_347 (by decide) rfl rfl rfl (wE_x _ _ _) ?_
                refine r_aload_n dX11_times_72 rfl ?_
                refine r_getIv dX11_times_73 flX11_371 sh_347 (by decide) rfl (wE_e _ _) ?_
                refine r_if_eq 83 dX11_times_76 (by decide) (fun c76 => ?_) (fun c76 => ?_)
                · exact absurd c76 (by decide)
                · refine r_lconst (v := 0) dX11_times_79 (by decide) ?_
                  refine r_goto 86 dX11_times_80 (by decide) ?_
                  (have q := rTm_t (e := e) (x := x) (z := z) (Or.inr ⟨fun q => c3 ((lg_cmp_eq _ _).mpr q), fun q => c9 ((lg_cmp_eq _ _).mpr q), by rw [rAb_p ((lg_cmp_ge _ _).mp c30), rAb_n (fun q => c15 ((lg_cmp_ge _ _).mpr q))]; exact Int64.not_le.mp (fun q => c41 ((lg_cmp_le _ _).mpr q))⟩); exact r_lret dX11_times_86 rfl (by rw [q]) (by rw [q]))
        · refine r_lload_n dX11_times_33 rfl ?_
          refine r_lneg dX11_times_34 ?_
          refine r_goto 39 dX11_times_35 (by decide) ?_
          refine r_ldiv dX11_times_39 (fun q => c3 ((lg_cmp_eq _ _).mpr (neg0 q))) ?_
          refine r_lcmp dX11_times_40 ?_
          refine r_if_le 48 dX11_times_41 (by decide) (fun c41 => ?_) (fun c41 => ?_)
          · refine r_iconst (v := 0) dX11_times_48 (by decide) ?_
            refine r_istore5 dX11_times_49 rfl ?_
            refine r_aload_n dX11_times_51 rfl ?_
            refine r_aload_n dX11_times_52 rfl ?_
            refine r_getIv dX11_times_53 flX11_371 sh_347 (by decide) rfl (wE_e _ _) ?_
            refine r_if_ne 64 dX11_times_56 (by decide) (fun c56 => ?_) (fun c56 => ?_)
            · refine r_iconst (v := 1) dX11_times_64 (by decide) ?_
              refine r_goto 69 dX11_times_65 (by decide) ?_
              refine r_putIv dX11_times_69 flX11_371 ⟨_, _, _, rfl, Or.inl rfl⟩ sh_347 (by decide) rfl rfl rfl (wE_x _ _ _) ?_
              refine r_aload_n dX11_times_72 rfl ?_
              refine r_getIv dX11_times_73 flX11_371 sh_347 (by decide) rfl (wE_e _ _) ?_
              refine r_if_eq 83 dX11_times_76 (by decide) (fun c76 => ?_) (fun c76 => ?_)
              · exact absurd c76 (by decide)
              · refine r_lconst (v := 0) dX11_times_79 (by decide) ?_
                refine r_goto 86 dX11_times_80 (by decide) ?_
                (have q := rTm_t (e := e) (x := x) (z := z) (Or.inl c56); exact r_lret dX11_times_86 rfl (by rw [q]) (by rw [q]))
            · refine r_iload dX11_times_59 rfl ?_
              refine r_if_eq 68 dX11_times_61 (by decide) (fun c61 => ?_) (fun c61 => ?_)
              · refine r_iconst (v := 0) dX11_times_68 (by decide) ?_
                refine r_putIv dX11_times_69 flX11_371 ⟨_, _, _, rfl, Or.inl rfl⟩ sh_347 (by decide) rfl rfl rfl (wE_x _ _ _) ?_
                refine r_aload_n dX11_times_72 rfl ?_
                refine r_getIv dX11_times_73 flX11_371 sh_347 (by decide) rfl (wE_e _ _) ?_
                refine r_if_eq 83 dX11_times_76 (by decide) (fun c76 => ?_) (fun c76 => ?_)
                · refine r_lload_n dX11_times_83 rfl ?_
                  refine r_lload_n dX11_times_84 rfl ?_
                  refine r_lmul dX11_times_85 ?_
                  (have q := rTm_f (e := e) (x := x) (z := z) (fun z => z.elim (fun z => z c56) (fun z => Int64.not_lt.mpr ((lg_cmp_le _ _).mp c41) (by have z := z.2.2; rw [rAb_n (fun q => c30 ((lg_cmp_ge _ _).mpr q)), rAb_n (fun q => c15 ((lg_cmp_ge _ _).mpr q))] at z; exact z))); exact r_lret dX11_times_86 rfl (by rw [q]) (by rw [q]))
                · exact absurd rfl c76
              · exact absurd c61 (by decide)
          · refine r_iconst (v := 1) dX11_times_44 (by decide) ?_
            refine r_goto 49 dX11_times_45 (by decide) ?_
            refine r_istore5 dX11_times_49 rfl ?_
            refine r_aload_n dX11_times_51 rfl ?_
            refine r_aload_n dX11_times_52 rfl ?_
            refine r_getIv dX11_times_53 flX11_371 sh_347 (by decide) rfl (wE_e _ _) ?_
            refine r_if_ne 64 dX11_times_56 (by decide) (fun c56 => ?_) (fun c56 => ?_)
            · refine r_iconst (v := 1) dX11_times_64 (by decide) ?_
              refine r_goto 69 dX11_times_65 (by decide) ?_
              refine r_putIv dX11_times_69 flX11_371 ⟨_, _, _, rfl, Or.inl rfl⟩ sh_347 (by decide) rfl rfl rfl (wE_x _ _ _) ?_
              refine r_aload_n dX11_times_72 rfl ?_
              refine r_getIv dX11_times_73 flX11_371 sh_347 (by decide) rfl (wE_e _ _) ?_
              refine r_if_eq 83 dX11_times_76 (by decide) (fun c76 => ?_) (fun c76 => ?_)
              · exact absurd c76 (by decide)
              · refine r_lconst (v := 0) dX11_times_79 (by decide) ?_
                refine r_goto 86 dX11_times_80 (by decide) ?_
                (have q := rTm_t (e := e) (x := x) (z := z) (Or.inl c56); exact r_lret dX11_times_86 rfl (by rw [q]) (by rw [q]))
            · refine r_iload dX11_times_59 rfl ?_
              refine r_if_eq 68 dX11_times_61 (by decide) (fun c61 => ?_) (fun c61 => ?_)
              · exact absurd c61 (by decide)
              · refine r_iconst (v := 1) dX11_times_64 (by decide) ?_
                refine r_goto 69 dX11_times_65 (by decide) ?_
                refine r_putIv dX11_times_69 flX11_371 ⟨_, _, _, rfl, Or.inl rfl⟩ sh_347 (by decide) rfl rfl rfl (wE_x _ _ _) ?_
                refine r_aload_n dX11_times_72 rfl ?_
                refine r_getIv dX11_times_73 flX11_371 sh_347 (by decide) rfl (wE_e _ _) ?_
                refine r_if_eq 83 dX11_times_76 (by decide) (fun c76 => ?_) (fun c76 => ?_)
                · exact absurd c76 (by decide)
                · refine r_lconst (v := 0) dX11_times_79 (by decide) ?_
                  refine r_goto 86 dX11_times_80 (by decide) ?_
                  (have q := rTm_t (e := e) (x := x) (z := z) (Or.inr ⟨fun q => c3 ((lg_cmp_eq _ _).mpr q), fun q => c9 ((lg_cmp_eq _ _).mpr q), by rw [rAb_n (fun q => c30 ((lg_cmp_ge _ _).mpr q)), rAb_n (fun q => c15 ((lg_cmp_ge _ _).mpr q))]; exact Int64.not_le.mp (fun q => c41 ((lg_cmp_le _ _).mpr q))⟩); exact r_lret dX11_times_86 rfl (by rw [q]) (by rw [q]))
theorem tsout_3_14 {k : Int32} (q0 : ¬ k = 3) (q1 : ¬ k = 4) (q2 : ¬ k = 5) (q3 : ¬ k = 6) (q4 : ¬ k = 7) (q5 : ¬ k = 8) (q6 : ¬ k = 9) (q7 : ¬ k = 10) (q8 : ¬ k = 11) (q9 : ¬ k = 12) (q10 : ¬ k = 13) (q11 : ¬ k = 14) : k.toInt < 3 ∨ 14 < k.toInt := by
  rcases Int.lt_or_le k.toInt 3 with h | h
  · exact Or.inl h
  · right
    apply Classical.byContradiction
    intro h2
    have h3 : k.toInt = 3 ∨ k.toInt = 4 ∨ k.toInt = 5 ∨ k.toInt = 6 ∨ k.toInt = 7 ∨ k.toInt = 8 ∨ k.toInt = 9 ∨ k.toInt = 10 ∨ k.toInt = 11 ∨ k.toInt = 12 ∨ k.toInt = 13 ∨ k.toInt = 14 := by omega
    rcases h3 with h3 | h3 | h3 | h3 | h3 | h3 | h3 | h3 | h3 | h3 | h3 | h3
    · exact q0 (Int32.toInt_inj.mp (h3.trans (by decide)))
    · exact q1 (Int32.toInt_inj.mp (h3.trans (by decide)))
    · exact q2 (Int32.toInt_inj.mp (h3.trans (by decide)))
    · exact q3 (Int32.toInt_inj.mp (h3.trans (by decide)))
    · exact q4 (Int32.toInt_inj.mp (h3.trans (by decide)))
    · exact q5 (Int32.toInt_inj.mp (h3.trans (by decide)))
    · exact q6 (Int32.toInt_inj.mp (h3.trans (by decide)))
    · exact q7 (Int32.toInt_inj.mp (h3.trans (by decide)))
    · exact q8 (Int32.toInt_inj.mp (h3.trans (by decide)))
    · exact q9 (Int32.toInt_inj.mp (h3.trans (by decide)))
    · exact q10 (Int32.toInt_inj.mp (h3.trans (by decide)))
    · exact q11 (Int32.toInt_inj.mp (h3.trans (by decide)))
/-- a knot's parts lie in their rows -/
def kOk (kn pt ot : Nat → Int32) (i : Nat) : Prop := kn i = 0 ∨ (kn i = 1 ∧ vp_in (pt i) 7) ∨ (¬ kn i = 0 ∧ ¬ kn i = 1 ∧ vp_in (pt i) 64 ∧ (kn i = 2 ∨ vp_in (ot i) 64))
theorem kOk.a {kn pt ot : Nat → Int32} {i : Nat} (h : kOk kn pt ot i) (h0 : ¬ kn i = 0) (h1 : kn i = 1) : vp_in (pt i) 7 := by
  rcases h with h | h | h
  · exact absurd h h0
  · exact h.2
  · exact absurd h1 h.2.1
theorem kOk.b {kn pt ot : Nat → Int32} {i : Nat} (h : kOk kn pt ot i) (h0 : ¬ kn i = 0) (h1 : ¬ kn i = 1) : vp_in (pt i) 64 := by
  rcases h with h | h | h
  · exact absurd h h0
  · exact absurd h.1 h1
  · exact h.2.2.1
theorem kOk.c {kn pt ot : Nat → Int32} {i : Nat} (h : kOk kn pt ot i) (h0 : ¬ kn i = 0) (h1 : ¬ kn i = 1) (h2 : ¬ kn i = 2) : vp_in (ot i) 64 := by
  rcases h with h | h | h
  · exact absurd h h0
  · exact absurd h.1 h1
  · exact h.2.2.2.resolve_left h2
theorem cl64 {i : Nat} (h : i < 64) : (nI i).toNatClampNeg = i := nI_clamp (by omega)
theorem in128 {i : Nat} (h : i < 64) : vp_in (nI i) 128 := vp_in_nI (by omega) (by omega)
theorem rVl_v {kn pt ot : Nat → Int32} {N g : Nat → Int64} {e : Int32} {i : Nat} (h0 : ¬ kn i = 0) (h1 : ¬ kn i = 1) (h2 : ¬ kn i = 2) : rVl kn pt ot N g e i = rVo (kn i) e (g (pt i).toNatClampNeg) (g (ot i).toNatClampNeg) := by rw [rVl, if_neg h0, if_neg h1, if_neg h2]
theorem rVo_d {k e : Int32} {x z : Int64} (h3 : ¬ k = 3) (h4 : ¬ k = 4) (h11 : ¬ k = 11) (h12 : ¬ k = 12) (h13 : ¬ k = 13) (h14 : ¬ k = 14) : rVo k e x z = (e, if rCp k x z = 0 then 0 else 1) := by rw [rVo, if_neg h3, if_neg h4, if_neg h11, if_neg h12, if_neg h13, if_neg h14]
theorem rVo_3 (e : Int32) (x z : Int64) : rVo 3 e x z = (e, if ¬ x = 0 ∧ ¬ z = 0 then 1 else 0) := rfl
theorem rVo_4 (e : Int32) (x z : Int64) : rVo 4 e x z = (e, if ¬ x = 0 ∨ ¬ z = 0 then 1 else 0) := rfl
theorem rVo_11 (e : Int32) (x z : Int64) : rVo 11 e x z = rBd e (x + z) := rfl
theorem rVo_12 (e : Int32) (x z : Int64) : rVo 12 e x z = rBd e (x - z) := rfl
theorem rVo_13 (e : Int32) (x z : Int64) : rVo 13 e x z = rTm e x z := rfl
theorem rVo_14 (e : Int32) (x z : Int64) : rVo 14 e x z = rDv e x z := rfl
set_option maxHeartbeats 4000000 in
theorem k_valueOf {E : xCl} {ex : Bool} {I : Nat → Nat → Int32} {e : Int32} {J : Nat → Nat → Int64} {P : Nat → Nat → Nat} (hP : Pok P) {i : Nat} (hi : i < 64) (hk : kOk (I 369) (I 370) (I 371) i) (d : Nat) : xEx E ex (d + 2) yX11_valueOf [.ref 347, .int (nI i)] (SH, wE I e, J, P) (some (.long (rVl (I 369) (I 370) (I 371) (J 374) (J 375) e i).2)) (SH, wE I (rVl (I 369) (I 370) (I 371) (J 374) (J 375) e i).1, J, P) := by
  refine x_enter cqX11_valueOf [some (.ref 347), some (.int (nI i)), none, none, none, none] rfl (by simp [lg_sl, Value.category]) ?_
  refine r_aload_n dX11_valueOf_0 rfl ?_
  refine r_getR dX11_valueOf_1 flX11_78 sh_347 (by decide) rfl (pf_347_39 hP) ?_
  refine r_iload_n dX11_valueOf_4 rfl ?_
  refine r_ialv dX11_valueOf_5 sh_369 (in128 hi) ((wE_o _ _ (by decide) _).trans (congrArg (I 369) (cl64 hi))) ?_
  refine r_if_ne 17 dX11_valueOf_6 (by decide) (fun c6 => ?_) (fun c6 => ?_)
  · refine r_aload_n dX11_valueOf_17 rfl ?_
    refine r_getR dX11_valueOf_18 flX11_78 sh_347 (by decide) rfl (pf_347_39 hP) ?_
    refine r_iload_n dX11_valueOf_21 rfl ?_
    refine r_ialv dX11_valueOf_22 sh_369 (in128 hi) ((wE_o _ _ (by decide) _).trans (congrArg (I 369) (cl64 hi))) ?_
    refine r_iconst (v := 1) dX11_valueOf_23 (by decide) ?_
    refine r_ic_ne 39 dX11_valueOf_24 (by decide) (fun c24 => ?_) (fun c24 => ?_)
    · refine r_aload_n dX11_valueOf_39 rfl ?_
      refine r_getR dX11_valueOf_40 flX11_97 sh_347 (by decide) rfl (pf_347_51 hP) ?_
      refine r_aload_n dX11_valueOf_43 rfl ?_
      refine r_getR dX11_valueOf_44 flX11_81 sh_347 (by decide) rfl (pf_347_40 hP) ?_
      refine r_iload_n dX11_valueOf_47 rfl ?_
      refine r_ialv dX11_valueOf_48 sh_370 (in128 hi) ((wE_o _ _ (by decide) _).trans (congrArg (I 370) (cl64 hi))) ?_
      refine r_lal dX11_valueOf_49 sh_375 (hk.b c6 c24) ?_
      refine r_lstore_n2 dX11_valueOf_50 rfl ?_
      refine r_aload_n dX11_valueOf_51 rfl ?_
      refine r_getR dX11_valueOf_52 flX11_78 sh_347 (by decide) rfl (pf_347_39 hP) ?_
      refine r_iload_n dX11_valueOf_55 rfl ?_
      refine r_ialv dX11_valueOf_56 sh_369 (in128 hi) ((wE_o _ _ (by decide) _).trans (congrArg (I 369) (cl64 hi))) ?_
      refine r_iconst (v := 2) dX11_valueOf_57 (by decide) ?_
      refine r_ic_ne 73 dX11_valueOf_58 (by decide) (fun c58 => ?_) (fun c58 => ?_)
      · refine r_aload_n dX11_valueOf_73 rfl ?_
        refine r_getR dX11_valueOf_74 flX11_97 sh_347 (by decide) rfl (pf_347_51 hP) ?_
        refine r_aload_n dX11_valueOf_77 rfl ?_
        refine r_getR dX11_valueOf_78 flX11_84 sh_347 (by decide) rfl (pf_347_41 hP) ?_
        refine r_iload_n dX11_valueOf_81 rfl ?_
        refine r_ialv dX11_valueOf_82 sh_371 (in128 hi) ((wE_o _ _ (by decide) _).trans (congrArg (I 371) (cl64 hi))) ?_
        refine r_lal dX11_valueOf_83 sh_375 (hk.c c6 c24 c58) ?_
        refine r_lstore4 dX11_valueOf_84 rfl ?_
        refine r_aload_n dX11_valueOf_86 rfl ?_
        refine r_getR dX11_valueOf_87 flX11_78 sh_347 (by decide) rfl (pf_347_39 hP) ?_
        refine r_iload_n dX11_valueOf_90 rfl ?_
        refine r_ialv dX11_valueOf_91 sh_369 (in128 hi) ((wE_o _ _ (by decide) _).trans (congrArg (I 369) (cl64 hi))) ?_
        by_cases q92_0 : (I 369 i) = 3
        · refine r_tsI 156 dX11_valueOf_92 (by rw [q92_0]; decide) (by rw [q92_0]; decide) (off := 64) (by rw [q92_0]; rfl) (by decide) ?_
          refine r_lload_n dX11_valueOf_156 rfl ?_
          refine r_lconst (v := 0) dX11_valueOf_157 (by decide) ?_
          refine r_lcmp dX11_valueOf_158 ?_
          refine r_if_eq 173 dX11_valueOf_159 (by decide) (fun c159 => ?_) (fun c159 => ?_)
          · refine r_lconst (v := 0) dX11_valueOf_173 (by decide) ?_
            (have q := rVl_v (kn := I 369) (pt := I 370) (ot := I 371) (N := J 374) (g := J 375) (e := e) (i := i) c6 c24 c58; rw [q92_0] at q; rw [rVo_3, if_neg (fun z => z.1 ((lg_cmp_eq _ _).mp c159))] at q; exact r_lret dX11_valueOf_174 rfl (by rw [q]) (by rw [q]))
          · refine r_lload dX11_valueOf_162 rfl ?_
            refine r_lconst (v := 0) dX11_valueOf_164 (by decide) ?_
            refine r_lcmp dX11_valueOf_165 ?_
            refine r_if_eq 173 dX11_valueOf_166 (by decide) (fun c166 => ?_) (fun c166 => ?_)
            · refine r_lconst (v := 0) dX11_valueOf_173 (by decide) ?_
              (have q := rVl_v (kn := I 369) (pt := I 370) (ot := I 371) (N := J 374) (g := J 375) (e := e) (i := i) c6 c24 c58; rw [q92_0] at q; rw [rVo_3, if_neg (fun z => z.2 ((lg_cmp_eq _ _).mp c166))] at q; exact r_lret dX11_valueOf_174 rfl (by rw [q]) (by rw [q]))
            · refine r_lconst (v := 1) dX11_valueOf_169 (by decide) ?_
              refine r_goto 174 dX11_valueOf_170 (by decide) ?_
              (have q := rVl_v (kn := I 369) (pt := I 370) (ot := I 371) (N := J 374) (g := J 375) (e := e) (i := i) c6 c24 c58; rw [q92_0] at q; rw [rVo_3, if_pos ⟨fun z => c159 ((lg_cmp_eq _ _).mpr z), fun z => c166 ((lg_cmp_eq _ _).mpr z)⟩] at q; exact r_lret dX11_valueOf_174 rfl (by rw [q]) (by rw [q]))
        by_cases q92_1 : (I 369 i) = 4
        · refine r_tsI 175 dX11_valueOf_92 (by rw [q92_1]; decide) (by rw [q92_1]; decide) (off := 83) (by rw [q92_1]; rfl) (by decide) ?_
          refine r_lload_n dX11_valueOf_175 rfl ?_
          refine r_lconst (v := 0) dX11_valueOf_176 (by decide) ?_
          refine r_lcmp dX11_valueOf_177 ?_
          refine r_if_ne 188 dX11_valueOf_178 (by decide) (fun c178 => ?_) (fun c178 => ?_)
          · refine r_lconst (v := 1) dX11_valueOf_188 (by decide) ?_
            refine r_goto 193 dX11_valueOf_189 (by decide) ?_
            (have q := rVl_v (kn := I 369) (pt := I 370) (ot := I 371) (N := J 374) (g := J 375) (e := e) (i := i) c6 c24 c58; rw [q92_1] at q; rw [rVo_4, if_pos (Or.inl (fun z => c178 ((lg_cmp_eq _ _).mpr z)))] at q; exact r_lret dX11_valueOf_193 rfl (by rw [q]) (by rw [q]))
          · refine r_lload dX11_valueOf_181 rfl ?_
            refine r_lconst (v := 0) dX11_valueOf_183 (by decide) ?_
            refine r_lcmp dX11_valueOf_184 ?_
            refine r_if_eq 192 dX11_valueOf_185 (by decide) (fun c185 => ?_) (fun c185 => ?_)
            · refine r_lconst (v := 0) dX11_valueOf_192 (by decide) ?_
              (have q := rVl_v (kn := I 369) (pt := I 370) (ot := I 371) (N := J 374) (g := J 375) (e := e) (i := i) c6 c24 c58; rw [q92_1] at q; rw [rVo_4, if_neg (fun z => z.elim (fun z => z ((lg_cmp_eq _ _).mp c178)) (fun z => z ((lg_cmp_eq _ _).mp c185)))] at q; exact r_lret dX11_valueOf_193 rfl (by rw [q]) (by rw [q]))
            · refine r_lconst (v := 1) dX11_valueOf_188 (by decide) ?_
              refine r_goto 193 dX11_valueOf_189 (by decide) ?_
              (have q := rVl_v (kn := I 369) (pt := I 370) (ot := I 371) (N := J 374) (g := J 375) (e := e) (i := i) c6 c24 c58; rw [q92_1] at q; rw [rVo_4, if_pos (Or.inr (fun z => c185 ((lg_cmp_eq _ _).mpr z)))] at q; exact r_lret dX11_valueOf_193 rfl (by rw [q]) (by rw [q]))
        by_cases q92_2 : (I 369 i) = 5
        · refine r_tsI 259 dX11_valueOf_92 (by rw [q92_2]; decide) (by rw [q92_2]; decide) (off := 167) (by rw [q92_2]; rfl) (by decide) ?_
          refine r_aload_n dX11_valueOf_259 rfl ?_
          refine r_getR dX11_valueOf_260 flX11_78 sh_347 (by decide) rfl (pf_347_39 hP) ?_
          refine r_iload_n dX11_valueOf_263 rfl ?_
          refine r_ialv dX11_valueOf_264 sh_369 (in128 hi) ((wE_o _ _ (by decide) _).trans (congrArg (I 369) (cl64 hi))) ?_
          refine r_lload_n dX11_valueOf_265 rfl ?_
          refine r_lload dX11_valueOf_266 rfl ?_
          refine r_cS3i dX11_valueOf_268 slX11_386 (Nat.le_of_ble_eq_true rfl) (k_compares _ _ _ d) ?_
          refine r_if_eq 278 dX11_valueOf_271 (by decide) (fun c271 => ?_) (fun c271 => ?_)
          · refine r_lconst (v := 0) dX11_valueOf_278 (by decide) ?_
            (have q := rVl_v (kn := I 369) (pt := I 370) (ot := I 371) (N := J 374) (g := J 375) (e := e) (i := i) c6 c24 c58; rw [rVo_d (by rw [q92_2]; decide) (by rw [q92_2]; decide) (by rw [q92_2]; decide) (by rw [q92_2]; decide) (by rw [q92_2]; decide) (by rw [q92_2]; decide), if_pos c271] at q; exact r_lret dX11_valueOf_279 rfl (by rw [q]) (by rw [q]))
          · refine r_lconst (v := 1) dX11_valueOf_274 (by decide) ?_
            refine r_goto 279 dX11_valueOf_275 (by decide) ?_
            (have q := rVl_v (kn := I 369) (pt := I 370) (ot := I 371) (N := J 374) (g := J 375) (e := e) (i := i) c6 c24 c58; rw [rVo_d (by rw [q92_2]; decide) (by rw [q92_2]; decide) (by rw [q92_2]; decide) (by rw [q92_2]; decide) (by rw [q92_2]; decide) (by rw [q92_2]; decide), if_neg c271] at q; exact r_lret dX11_valueOf_279 rfl (by rw [q]) (by rw [q]))
        by_cases q92_3 : (I 369 i) = 6
        · refine r_tsI 259 dX11_valueOf_92 (by rw [q92_3]; decide) (by rw [q92_3]; decide) (off := 167) (by rw [q92_3]; rfl) (by decide) ?_
          refine r_aload_n dX11_valueOf_259 rfl ?_
          refine r_getR dX11_valueOf_260 flX11_78 sh_347 (by decide) rfl (pf_347_39 hP) ?_
          refine r_iload_n dX11_valueOf_263 rfl ?_
          refine r_ialv dX11_valueOf_264 sh_369 (in128 hi) ((wE_o _ _ (by decide) _).trans (congrArg (I 369) (cl64 hi))) ?_
          refine r_lload_n dX11_valueOf_265 rfl ?_
          refine r_lload dX11_valueOf_266 rfl ?_
          refine r_cS3i dX11_valueOf_268 slX11_386 (Nat.le_of_ble_eq_true rfl) (k_compares _ _ _ d) ?_
          refine r_if_eq 278 dX11_valueOf_271 (by decide) (fun c271 => ?_) (fun c271 => ?_)
          · refine r_lconst (v := 0) dX11_valueOf_278 (by decide) ?_
            (have q := rVl_v (kn := I 369) (pt := I 370) (ot := I 371) (N := J 374) (g := J 375) (e := e) (i := i) c6 c24 c58; rw [rVo_d (by rw [q92_3]; decide) (by rw [q92_3]; decide) (by rw [q92_3]; decide) (by rw [q92_3]; decide) (by rw [q92_3]; decide) (by rw [q92_3]; decide), if_pos c271] at q; exact r_lret dX11_valueOf_279 rfl (by rw [q]) (by rw [q]))
          · refine r_lconst (v := 1) dX11_valueOf_274 (by decide) ?_
            refine r_goto 279 dX11_valueOf_275 (by decide) ?_
            (have q := rVl_v (kn := I 369) (pt := I 370) (ot := I 371) (N := J 374) (g := J 375) (e := e) (i := i) c6 c24 c58; rw [rVo_d (by rw [q92_3]; decide) (by rw [q92_3]; decide) (by rw [q92_3]; decide) (by rw [q92_3]; decide) (by rw [q92_3]; decide) (by rw [q92_3]; decide), if_neg c271] at q; exact r_lret dX11_valueOf_279 rfl (by rw [q]) (by rw [q]))
        by_cases q92_4 : (I 369 i) = 7
        · refine r_tsI 259 dX11_valueOf_92 (by rw [q92_4]; decide) (by rw [q92_4]; decide) (off := 167) (by rw [q92_4]; rfl) (by decide) ?_
          refine r_aload_n dX11_valueOf_259 rfl ?_
          refine r_getR dX11_valueOf_260 flX11_78 sh_347 (by decide) rfl (pf_347_39 hP) ?_
          refine r_iload_n dX11_valueOf_263 rfl ?_
          refine r_ialv dX11_valueOf_264 sh_369 (in128 hi) ((wE_o _ _ (by decide) _).trans (congrArg (I 369) (cl64 hi))) ?_
          refine r_lload_n dX11_valueOf_265 rfl ?_
          refine r_lload dX11_valueOf_266 rfl ?_
          refine r_cS3i dX11_valueOf_268 slX11_386 (Nat.le_of_ble_eq_true rfl) (k_compares _ _ _ d) ?_
          refine r_if_eq 278 dX11_valueOf_271 (by decide) (fun c271 => ?_) (fun c271 => ?_)
          · refine r_lconst (v := 0) dX11_valueOf_278 (by decide) ?_
            (have q := rVl_v (kn := I 369) (pt := I 370) (ot := I 371) (N := J 374) (g := J 375) (e := e) (i := i) c6 c24 c58; rw [rVo_d (by rw [q92_4]; decide) (by rw [q92_4]; decide) (by rw [q92_4]; decide) (by rw [q92_4]; decide) (by rw [q92_4]; decide) (by rw [q92_4]; decide), if_pos c271] at q; exact r_lret dX11_valueOf_279 rfl (by rw [q]) (by rw [q]))
          · refine r_lconst (v := 1) dX11_valueOf_274 (by decide) ?_
            refine r_goto 279 dX11_valueOf_275 (by decide) ?_
            (have q := rVl_v (kn := I 369) (pt := I 370) (ot := I 371) (N := J 374) (g := J 375) (e := e) (i := i) c6 c24 c58; rw [rVo_d (by rw [q92_4]; decide) (by rw [q92_4]; decide) (by rw [q92_4]; decide) (by rw [q92_4]; decide) (by rw [q92_4]; decide) (by rw [q92_4]; decide), if_neg c271] at q; exact r_lret dX11_valueOf_279 rfl (by rw [q]) (by rw [q]))
        by_cases q92_5 : (I 369 i) = 8
        · refine r_tsI 259 dX11_valueOf_92 (by rw [q92_5]; decide) (by rw [q92_5]; decide) (off := 167) (by rw [q92_5]; rfl) (by decide) ?_
          refine r_aload_n dX11_valueOf_259 rfl ?_
          refine r_getR dX11_valueOf_260 flX11_78 sh_347 (by decide) rfl (pf_347_39 hP) ?_
          refine r_iload_n dX11_valueOf_263 rfl ?_
          refine r_ialv dX11_valueOf_264 sh_369 (in128 hi) ((wE_o _ _ (by decide) _).trans (congrArg (I 369) (cl64 hi))) ?_
          refine r_lload_n dX11_valueOf_265 rfl ?_
          refine r_lload dX11_valueOf_266 rfl ?_
          refine r_cS3i dX11_valueOf_268 slX11_386 (Nat.le_of_ble_eq_true rfl) (k_compares _ _ _ d) ?_
          refine r_if_eq 278 dX11_valueOf_271 (by decide) (fun c271 => ?_) (fun c271 => ?_)
          · refine r_lconst (v := 0) dX11_valueOf_278 (by decide) ?_
            (have q := rVl_v (kn := I 369) (pt := I 370) (ot := I 371) (N := J 374) (g := J 375) (e := e) (i := i) c6 c24 c58; rw [rVo_d (by rw [q92_5]; decide) (by rw [q92_5]; decide) (by rw [q92_5]; decide) (by rw [q92_5]; decide) (by rw [q92_5]; decide) (by rw [q92_5]; decide), if_pos c271] at q; exact r_lret dX11_valueOf_279 rfl (by rw [q]) (by rw [q]))
          · refine r_lconst (v := 1) dX11_valueOf_274 (by decide) ?_
            refine r_goto 279 dX11_valueOf_275 (by decide) ?_
            (have q := rVl_v (kn := I 369) (pt := I 370) (ot := I 371) (N := J 374) (g := J 375) (e := e) (i := i) c6 c24 c58; rw [rVo_d (by rw [q92_5]; decide) (by rw [q92_5]; decide) (by rw [q92_5]; decide) (by rw [q92_5]; decide) (by rw [q92_5]; decide) (by rw [q92_5]; decide), if_neg c271] at q; exact r_lret dX11_valueOf_279 rfl (by rw [q]) (by rw [q]))
        by_cases q92_6 : (I 369 i) = 9
        · refine r_tsI 259 dX11_valueOf_92 (by rw [q92_6]; decide) (by rw [q92_6]; decide) (off := 167) (by rw [q92_6]; rfl) (by decide) ?_
          refine r_aload_n dX11_valueOf_259 rfl ?_
          refine r_getR dX11_valueOf_260 flX11_78 sh_347 (by decide) rfl (pf_347_39 hP) ?_
          refine r_iload_n dX11_valueOf_263 rfl ?_
          refine r_ialv dX11_valueOf_264 sh_369 (in128 hi) ((wE_o _ _ (by decide) _).trans (congrArg (I 369) (cl64 hi))) ?_
          refine r_lload_n dX11_valueOf_265 rfl ?_
          refine r_lload dX11_valueOf_266 rfl ?_
          refine r_cS3i dX11_valueOf_268 slX11_386 (Nat.le_of_ble_eq_true rfl) (k_compares _ _ _ d) ?_
          refine r_if_eq 278 dX11_valueOf_271 (by decide) (fun c271 => ?_) (fun c271 => ?_)
          · refine r_lconst (v := 0) dX11_valueOf_278 (by decide) ?_
            (have q := rVl_v (kn := I 369) (pt := I 370) (ot := I 371) (N := J 374) (g := J 375) (e := e) (i := i) c6 c24 c58; rw [rVo_d (by rw [q92_6]; decide) (by rw [q92_6]; decide) (by rw [q92_6]; decide) (by rw [q92_6]; decide) (by rw [q92_6]; decide) (by rw [q92_6]; decide), if_pos c271] at q; exact r_lret dX11_valueOf_279 rfl (by rw [q]) (by rw [q]))
          · refine r_lconst (v := 1) dX11_valueOf_274 (by decide) ?_
            refine r_goto 279 dX11_valueOf_275 (by decide) ?_
            (have q := rVl_v (kn := I 369) (pt := I 370) (ot := I 371) (N := J 374) (g := J 375) (e := e) (i := i) c6 c24 c58; rw [rVo_d (by rw [q92_6]; decide) (by rw [q92_6]; decide) (by rw [q92_6]; decide) (by rw [q92_6]; decide) (by rw [q92_6]; decide) (by rw [q92_6]; decide), if_neg c271] at q; exact r_lret dX11_valueOf_279 rfl (by rw [q]) (by rw [q]))
        by_cases q92_7 : (I 369 i) = 10
        · refine r_tsI 259 dX11_valueOf_92 (by rw [q92_7]; decide) (by rw [q92_7]; decide) (off := 167) (by rw [q92_7]; rfl) (by decide) ?_
          refine r_aload_n dX11_valueOf_259 rfl ?_
          refine r_getR dX11_valueOf_260 flX11_78 sh_347 (by decide) rfl (pf_347_39 hP) ?_
          refine r_iload_n dX11_valueOf_263 rfl ?_
          refine r_ialv dX11_valueOf_264 sh_369 (in128 hi) ((wE_o _ _ (by decide) _).trans (congrArg (I 369) (cl64 hi))) ?_
          refine r_lload_n dX11_valueOf_265 rfl ?_
          refine r_lload dX11_valueOf_266 rfl ?_
          refine r_cS3i dX11_valueOf_268 slX11_386 (Nat.le_of_ble_eq_true rfl) (k_compares _ _ _ d) ?_
          refine r_if_eq 278 dX11_valueOf_271 (by decide) (fun c271 => ?_) (fun c271 => ?_)
          · refine r_lconst (v := 0) dX11_valueOf_278 (by decide) ?_
            (have q := rVl_v (kn := I 369) (pt := I 370) (ot := I 371) (N := J 374) (g := J 375) (e := e) (i := i) c6 c24 c58; rw [rVo_d (by rw [q92_7]; decide) (by rw [q92_7]; decide) (by rw [q92_7]; decide) (by rw [q92_7]; decide) (by rw [q92_7]; decide) (by rw [q92_7]; decide), if_pos c271] at q; exact r_lret dX11_valueOf_279 rfl (by rw [q]) (by rw [q]))
          · refine r_lconst (v := 1) dX11_valueOf_274 (by decide) ?_
            refine r_goto 279 dX11_valueOf_275 (by decide) ?_
            (have q := rVl_v (kn := I 369) (pt := I 370) (ot := I 371) (N := J 374) (g := J 375) (e := e) (i := i) c6 c24 c58; rw [rVo_d (by rw [q92_7]; decide) (by rw [q92_7]; decide) (by rw [q92_7]; decide) (by rw [q92_7]; decide) (by rw [q92_7]; decide) (by rw [q92_7]; decide), if_neg c271] at q; exact r_lret dX11_valueOf_279 rfl (by rw [q]) (by rw [q]))
        by_cases q92_8 : (I 369 i) = 11
        · refine r_tsI 194 dX11_valueOf_92 (by rw [q92_8]; decide) (by rw [q92_8]; decide) (off := 102) (by rw [q92_8]; rfl) (by decide) ?_
          refine r_aload_n dX11_valueOf_194 rfl ?_
          refine r_lload_n dX11_valueOf_195 rfl ?_
          refine r_lload dX11_valueOf_196 rfl ?_
          refine r_ladd dX11_valueOf_198 ?_
          refine r_cV1l dX11_valueOf_199 vlX11_378 sh_347 (Nat.le_of_ble_eq_true rfl) (k_bounded _ d) ?_
          (have q := rVl_v (kn := I 369) (pt := I 370) (ot := I 371) (N := J 374) (g := J 375) (e := e) (i := i) c6 c24 c58; rw [q92_8] at q; rw [rVo_11] at q; exact r_lret dX11_valueOf_202 rfl (by rw [q]) (by rw [q]))
        by_cases q92_9 : (I 369 i) = 12
        · refine r_tsI 203 dX11_valueOf_92 (by rw [q92_9]; decide) (by rw [q92_9]; decide) (off := 111) (by rw [q92_9]; rfl) (by decide) ?_
          refine r_aload_n dX11_valueOf_203 rfl ?_
          refine r_lload_n dX11_valueOf_204 rfl ?_
          refine r_lload dX11_valueOf_205 rfl ?_
          refine r_lsub dX11_valueOf_207 ?_
          refine r_cV1l dX11_valueOf_208 vlX11_378 sh_347 (Nat.le_of_ble_eq_true rfl) (k_bounded _ d) ?_
          (have q := rVl_v (kn := I 369) (pt := I 370) (ot := I 371) (N := J 374) (g := J 375) (e := e) (i := i) c6 c24 c58; rw [q92_9] at q; rw [rVo_12] at q; exact r_lret dX11_valueOf_211 rfl (by rw [q]) (by rw [q]))
        by_cases q92_10 : (I 369 i) = 13
        · refine r_tsI 212 dX11_valueOf_92 (by rw [q92_10]; decide) (by rw [q92_10]; decide) (off := 120) (by rw [q92_10]; rfl) (by decide) ?_
          refine r_aload_n dX11_valueOf_212 rfl ?_
          refine r_lload_n dX11_valueOf_213 rfl ?_
          refine r_lload dX11_valueOf_214 rfl ?_
          refine r_cV2l dX11_valueOf_216 vlX11_382 sh_347 (Nat.le_of_ble_eq_true rfl) (k_times _ _ d) ?_
          (have q := rVl_v (kn := I 369) (pt := I 370) (ot := I 371) (N := J 374) (g := J 375) (e := e) (i := i) c6 c24 c58; rw [q92_10] at q; rw [rVo_13] at q; exact r_lret dX11_valueOf_219 rfl (by rw [q]) (by rw [q]))
        by_cases q92_11 : (I 369 i) = 14
        · refine r_tsI 220 dX11_valueOf_92 (by rw [q92_11]; decide) (by rw [q92_11]; decide) (off := 128) (by rw [q92_11]; rfl) (by decide) ?_
          refine r_aload_n dX11_valueOf_220 rfl ?_
          refine r_aload_n dX11_valueOf_221 rfl ?_
          refine r_getIv dX11_valueOf_222 flX11_371 sh_347 (by decide) rfl (wE_e _ _) ?_
          refine r_if_ne 235 dX11_valueOf_225 (by decide) (fun c225 => ?_) (fun c225 => ?_)
          · refine r_iconst (v := 1) dX11_valueOf_235 (by decide) ?_
            refine r_goto 240 dX11_valueOf_236 (by decide) ?_
            refine r_putIv dX11_valueOf_240 flX11_371 ⟨_, _, _, rfl, Or.inl rfl⟩ sh_347 (by decide) rfl rfl rfl (wE_x _ _ _) ?_
            refine r_aload_n dX11_valueOf_243 rfl ?_
            refine r_getIv dX11_valueOf_244 flX11_371 sh_347 (by decide) rfl (wE_e _ _) ?_
            refine r_if_eq 254 dX11_valueOf_247 (by decide) (fun c247 => ?_) (fun c247 => ?_)
            · exact absurd c247 (by decide)
            · refine r_lconst (v := 0) dX11_valueOf_250 (by decide) ?_
              refine r_goto 258 dX11_valueOf_251 (by decide) ?_
              (have q := rVl_v (kn := I 369) (pt := I 370) (ot := I 371) (N := J 374) (g := J 375) (e := e) (i := i) c6 c24 c58; rw [q92_11] at q; rw [rVo_14, rDv_t (Or.inl c225)] at q; exact r_lret dX11_valueOf_258 rfl (by rw [q]) (by rw [q]))
          · refine r_lload dX11_valueOf_228 rfl ?_
            refine r_lconst (v := 0) dX11_valueOf_230 (by decide) ?_
            refine r_lcmp dX11_valueOf_231 ?_
            refine r_if_ne 239 dX11_valueOf_232 (by decide) (fun c232 => ?_) (fun c232 => ?_)
            · refine r_iconst (v := 0) dX11_valueOf_239 (by decide) ?_
              refine r_putIv dX11_valueOf_240 flX11_371 ⟨_, _, _, rfl, Or.inl rfl⟩ sh_347 (by decide) rfl rfl rfl (wE_x _ _ _) ?_
              refine r_aload_n dX11_valueOf_243 rfl ?_
              refine r_getIv dX11_valueOf_244 flX11_371 sh_347 (by decide) rfl (wE_e _ _) ?_
              refine r_if_eq 254 dX11_valueOf_247 (by decide) (fun c247 => ?_) (fun c247 => ?_)
              · refine r_lload_n dX11_valueOf_254 rfl ?_
                refine r_lload dX11_valueOf_255 rfl ?_
                refine r_ldiv dX11_valueOf_257 (fun z => c232 ((lg_cmp_eq _ _).mpr z)) ?_
                (have q := rVl_v (kn := I 369) (pt := I 370) (ot := I 371) (N := J 374) (g := J 375) (e := e) (i := i) c6 c24 c58; rw [q92_11] at q; rw [rVo_14, rDv_f (fun z => z.elim (fun z => z c225) (fun z => c232 ((lg_cmp_eq _ _).mpr z)))] at q; exact r_lret dX11_valueOf_258 rfl (by rw [q]) (by rw [q]))
              · exact absurd rfl c247
            · refine r_iconst (v := 1) dX11_valueOf_235 (by decide) ?_
              refine r_goto 240 dX11_valueOf_236 (by decide) ?_
              refine r_putIv dX11_valueOf_240 flX11_371 ⟨_, _, _, rfl, Or.inl rfl⟩ sh_347 (by decide) rfl rfl rfl (wE_x _ _ _) ?_
              refine r_aload_n dX11_valueOf_243 rfl ?_
              refine r_getIv dX11_valueOf_244 flX11_371 sh_347 (by decide) rfl (wE_e _ _) ?_
              refine r_if_eq 254 dX11_valueOf_247 (by decide) (fun c247 => ?_) (fun c247 => ?_)
              · exact absurd c247 (by decide)
              · refine r_lconst (v := 0) dX11_valueOf_250 (by decide) ?_
                refine r_goto 258 dX11_valueOf_251 (by decide) ?_
                (have q := rVl_v (kn := I 369) (pt := I 370) (ot := I 371) (N := J 374) (g := J 375) (e := e) (i := i) c6 c24 c58; rw [q92_11] at q; rw [rVo_14, rDv_t (Or.inr ((lg_cmp_eq _ _).mp c232))] at q; exact r_lret dX11_valueOf_258 rfl (by rw [q]) (by rw [q]))
        refine r_tsO 259 dX11_valueOf_92 (tsout_3_14 q92_0 q92_1 q92_2 q92_3 q92_4 q92_5 q92_6 q92_7 q92_8 q92_9 q92_10 q92_11) (by decide) ?_
        refine r_aload_n dX11_valueOf_259 rfl ?_
        refine r_getR dX11_valueOf_260 flX11_78 sh_347 (by decide) rfl (pf_347_39 hP) ?_
        refine r_iload_n dX11_valueOf_263 rfl ?_
        refine r_ialv dX11_valueOf_264 sh_369 (in128 hi) ((wE_o _ _ (by decide) _).trans (congrArg (I 369) (cl64 hi))) ?_
        refine r_lload_n dX11_valueOf_265 rfl ?_
        refine r_lload dX11_valueOf_266 rfl ?_
        refine r_cS3i dX11_valueOf_268 slX11_386 (Nat.le_of_ble_eq_true rfl) (k_compares _ _ _ d) ?_
        refine r_if_eq 278 dX11_valueOf_271 (by decide) (fun c271 => ?_) (fun c271 => ?_)
        · refine r_lconst (v := 0) dX11_valueOf_278 (by decide) ?_
          (have q := rVl_v (kn := I 369) (pt := I 370) (ot := I 371) (N := J 374) (g := J 375) (e := e) (i := i) c6 c24 c58; rw [rVo_d q92_0 q92_1 q92_8 q92_9 q92_10 q92_11, if_pos c271] at q; exact r_lret dX11_valueOf_279 rfl (by rw [q]) (by rw [q]))
        · refine r_lconst (v := 1) dX11_valueOf_274 (by decide) ?_
          refine r_goto 279 dX11_valueOf_275 (by decide) ?_
          (have q := rVl_v (kn := I 369) (pt := I 370) (ot := I 371) (N := J 374) (g := J 375) (e := e) (i := i) c6 c24 c58; rw [rVo_d q92_0 q92_1 q92_8 q92_9 q92_10 q92_11, if_neg c271] at q; exact r_lret dX11_valueOf_279 rfl (by rw [q]) (by rw [q]))
      · refine r_lload_n dX11_valueOf_61 rfl ?_
        refine r_lconst (v := 0) dX11_valueOf_62 (by decide) ?_
        refine r_lcmp dX11_valueOf_63 ?_
        refine r_if_ne 71 dX11_valueOf_64 (by decide) (fun c64 => ?_) (fun c64 => ?_)
        · refine r_lconst (v := 0) dX11_valueOf_71 (by decide) ?_
          (have q : (rVl (I 369) (I 370) (I 371) (J 374) (J 375) e i) = (e, 0) := (by rw [rVl, if_neg c6, if_neg c24, if_pos c58, if_neg (fun z => c64 ((lg_cmp_eq _ _).mpr z))]); exact r_lret dX11_valueOf_72 rfl (by rw [q]) (by rw [q]))
        · refine r_lconst (v := 1) dX11_valueOf_67 (by decide) ?_
          refine r_goto 72 dX11_valueOf_68 (by decide) ?_
          (have q : (rVl (I 369) (I 370) (I 371) (J 374) (J 375) e i) = (e, 1) := (by rw [rVl, if_neg c6, if_neg c24, if_pos c58, if_pos ((lg_cmp_eq _ _).mp c64)]); exact r_lret dX11_valueOf_72 rfl (by rw [q]) (by rw [q]))
    · refine r_aload_n dX11_valueOf_27 rfl ?_
      refine r_getR dX11_valueOf_28 flX11_93 sh_347 (by decide) rfl (pf_347_50 hP) ?_
      refine r_aload_n dX11_valueOf_31 rfl ?_
      refine r_getR dX11_valueOf_32 flX11_81 sh_347 (by decide) rfl (pf_347_40 hP) ?_
      refine r_iload_n dX11_valueOf_35 rfl ?_
      refine r_ialv dX11_valueOf_36 sh_370 (in128 hi) ((wE_o _ _ (by decide) _).trans (congrArg (I 370) (cl64 hi))) ?_
      refine r_lal dX11_valueOf_37 sh_374 (hk.a c6 c24) ?_
      (have q : (rVl (I 369) (I 370) (I 371) (J 374) (J 375) e i) = (e, J 374 (I 370 i).toNatClampNeg) := (by rw [rVl, if_neg c6, if_pos c24]); exact r_lret dX11_valueOf_38 rfl (by rw [q]) (by rw [q]))
  · refine r_aload_n dX11_valueOf_9 rfl ?_
    refine r_getR dX11_valueOf_10 flX11_81 sh_347 (by decide) rfl (pf_347_40 hP) ?_
    refine r_iload_n dX11_valueOf_13 rfl ?_
    refine r_ialv dX11_valueOf_14 sh_370 (in128 hi) ((wE_o _ _ (by decide) _).trans (congrArg (I 370) (cl64 hi))) ?_
    refine r_i2l dX11_valueOf_15 ?_
    (have q : (rVl (I 369) (I 370) (I 371) (J 374) (J 375) e i) = (e, (I 370 i).toInt64) := (by rw [rVl, if_pos c6]); exact r_lret dX11_valueOf_16 rfl (by rw [q]) (by rw [q]))
