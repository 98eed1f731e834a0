/-! how strong a sign binds -/
def cRk (k : Int32) : Int32 := if k = 20 then 2 else if k = 21 then 1 else if k = 22 then 3 else if k = 29 then 5 else if k = 30 then 5 else if k = 31 then 6 else if k = 32 then 6 else if k < 23 then 0 else if 28 < k then 0 else 4
def rRk (k : Int32) : Int32 := if k < 13 then (if k < 11 then (if k < 5 then (if k = 2 then 3 else if k = 3 then 2 else if k = 4 then 1 else 0) else 4) else 5) else 6
set_option maxHeartbeats 1000000 in
theorem k_rankOf {E : xCl} {ex : Bool} {I : Nat → Nat → Int32} {J : Nat → Nat → Int64} {P : Nat → Nat → Nat} (x : Int32) (d : Nat) : xEx E ex (d + 1) yX1_rankOf [.int x] (SH, I, J, P) (some (.int (cRk x))) (SH, I, J, P) := by
  refine x_enter cqX1_rankOf [some (.int x)] rfl (by simp [lg_sl, Value.category]) ?_
  refine r_iload_n dX1_rankOf_0 rfl ?_
  by_cases q1_0 : x = 20
  · refine r_tsI 70 dX1_rankOf_1 (by rw [q1_0]; decide) (by rw [q1_0]; decide) (off := 69) (by rw [q1_0]; rfl) (by decide) ?_
    refine r_iconst (v := 2) dX1_rankOf_70 (by decide) ?_
    exact r_iret dX1_rankOf_71 rfl rfl (congrArg (fun z => some (Value.int z)) (show cRk x = (2 : Int32) by rw [q1_0]; decide +kernel)) rfl
  by_cases q1_1 : x = 21
  · refine r_tsI 68 dX1_rankOf_1 (by rw [q1_1]; decide) (by rw [q1_1]; decide) (off := 67) (by rw [q1_1]; rfl) (by decide) ?_
    refine r_iconst (v := 1) dX1_rankOf_68 (by decide) ?_
    exact r_iret dX1_rankOf_69 rfl rfl (congrArg (fun z => some (Value.int z)) (show cRk x = (1 : Int32) by rw [q1_1]; decide +kernel)) rfl
  by_cases q1_2 : x = 22
  · refine r_tsI 72 dX1_rankOf_1 (by rw [q1_2]; decide) (by rw [q1_2]; decide) (off := 71) (by rw [q1_2]; rfl) (by decide) ?_
    refine r_iconst (v := 3) dX1_rankOf_72 (by decide) ?_
    exact r_iret dX1_rankOf_73 rfl rfl (congrArg (fun z => some (Value.int z)) (show cRk x = (3 : Int32) by rw [q1_2]; decide +kernel)) rfl
  by_cases q1_3 : x = 23
  · refine r_tsI 79 dX1_rankOf_1 (by rw [q1_3]; decide) (by rw [q1_3]; decide) (off := 78) (by rw [q1_3]; rfl) (by decide) ?_
    refine r_iload_n dX1_rankOf_79 rfl ?_
    refine r_bipush (v := 23) dX1_rankOf_80 (by decide) ?_
    refine r_ic_lt 95 dX1_rankOf_82 (by decide) (fun c82 => ?_) (fun c82 => ?_)
    · exact absurd c82 (by rw [q1_3]; decide)
    · refine r_iload_n dX1_rankOf_85 rfl ?_
      refine r_bipush (v := 28) dX1_rankOf_86 (by decide) ?_
      refine r_ic_gt 95 dX1_rankOf_88 (by decide) (fun c88 => ?_) (fun c88 => ?_)
      · exact absurd c88 (by rw [q1_3]; decide)
      · refine r_iconst (v := 4) dX1_rankOf_91 (by decide) ?_
        refine r_goto 96 dX1_rankOf_92 (by decide) ?_
        exact r_iret dX1_rankOf_96 rfl rfl (congrArg (fun z => some (Value.int z)) (show cRk x = (4 : Int32) by rw [q1_3]; decide +kernel)) rfl
  by_cases q1_4 : x = 24
  · refine r_tsI 79 dX1_rankOf_1 (by rw [q1_4]; decide) (by rw [q1_4]; decide) (off := 78) (by rw [q1_4]; rfl) (by decide) ?_
    refine r_iload_n dX1_rankOf_79 rfl ?_
    refine r_bipush (v := 23) dX1_rankOf_80 (by decide) ?_
    refine r_ic_lt 95 dX1_rankOf_82 (by decide) (fun c82 => ?_) (fun c82 => ?_)
    · exact absurd c82 (by rw [q1_4]; decide)
    · refine r_iload_n dX1_rankOf_85 rfl ?_
      refine r_bipush (v := 28) dX1_rankOf_86 (by decide) ?_
      refine r_ic_gt 95 dX1_rankOf_88 (by decide) (fun c88 => ?_) (fun c88 => ?_)
      · exact absurd c88 (by rw [q1_4]; decide)
      · refine r_iconst (v := 4) dX1_rankOf_91 (by decide) ?_
        refine r_goto 96 dX1_rankOf_92 (by decide) ?_
        exact r_iret dX1_rankOf_96 rfl rfl (congrArg (fun z => some (Value.int z)) (show cRk x = (4 : Int32) by rw [q1_4]; decide +kernel)) rfl
  by_cases q1_5 : x = 25
  · refine r_tsI 79 dX1_rankOf_1 (by rw [q1_5]; decide) (by rw [q1_5]; decide) (off := 78) (by rw [q1_5]; rfl) (by decide) ?_
    refine r_iload_n dX1_rankOf_79 rfl ?_
    refine r_bipush (v := 23) dX1_rankOf_80 (by decide) ?_
    refine r_ic_lt 95 dX1_rankOf_82 (by decide) (fun c82 => ?_) (fun c82 => ?_)
    · exact absurd c82 (by rw [q1_5]; decide)
    · refine r_iload_n dX1_rankOf_85 rfl ?_
      refine r_bipush (v := 28) dX1_rankOf_86 (by decide) ?_
      refine r_ic_gt 95 dX1_rankOf_88 (by decide) (fun c88 => ?_) (fun c88 => ?_)
      · exact absurd c88 (by rw [q1_5]; decide)
      · refine r_iconst (v := 4) dX1_rankOf_91 (by decide) ?_
        refine r_goto 96 dX1_rankOf_92 (by decide) ?_
        exact r_iret dX1_rankOf_96 rfl rfl (congrArg (fun z => some (Value.int z)) (show cRk x = (4 : Int32) by rw [q1_5]; decide +kernel)) rfl
  by_cases q1_6 : x = 26
  · refine r_tsI 79 dX1_rankOf_1 (by rw [q1_6]; decide) (by rw [q1_6]; decide) (off := 78) (by rw [q1_6]; rfl) (by decide) ?_
    refine r_iload_n dX1_rankOf_79 rfl ?_
    refine r_bipush (v := 23) dX1_rankOf_80 (by decide) ?_
    refine r_ic_lt 95 dX1_rankOf_82 (by decide) (fun c82 => ?_) (fun c82 => ?_)
    · exact absurd c82 (by rw [q1_6]; decide)
    · refine r_iload_n dX1_rankOf_85 rfl ?_
      refine r_bipush (v := 28) dX1_rankOf_86 (by decide) ?_
      refine r_ic_gt 95 dX1_rankOf_88 (by decide) (fun c88 => ?_) (fun c88 => ?_)
      · exact absurd c88 (by rw [q1_6]; decide)
      · refine r_iconst (v := 4) dX1_rankOf_91 (by decide) ?_
        refine r_goto 96 dX1_rankOf_92 (by decide) ?_
        exact r_iret dX1_rankOf_96 rfl rfl (congrArg (fun z => some (Value.int z)) (show cRk x = (4 : Int32) by rw [q1_6]; decide +kernel)) rfl
  by_cases q1_7 : x = 27
  · refine r_tsI 79 dX1_rankOf_1 (by rw [q1_7]; decide) (by rw [q1_7]; decide) (off := 78) (by rw [q1_7]; rfl) (by decide) ?_
    refine r_iload_n dX1_rankOf_79 rfl ?_
    refine r_bipush (v := 23) dX1_rankOf_80 (by decide) ?_
    refine r_ic_lt 95 dX1_rankOf_82 (by decide) (fun c82 => ?_) (fun c82 => ?_)
    · exact absurd c82 (by rw [q1_7]; decide)
    · refine r_iload_n dX1_rankOf_85 rfl ?_
      refine r_bipush (v := 28) dX1_rankOf_86 (by decide) ?_
      refine r_ic_gt 95 dX1_rankOf_88 (by decide) (fun c88 => ?_) (fun c88 => ?_)
      · exact absurd c88 (by rw [q1_7]; decide)
      · refine r_iconst (v := 4) dX1_rankOf_91 (by decide) ?_
        refine r_goto 96 dX1_rankOf_92 (by decide) ?_
        exact r_iret dX1_rankOf_96 rfl rfl (congrArg (fun z => some (Value.int z)) (show cRk x = (4 : Int32) by rw [q1_7]; decide +kernel)) rfl
  by_cases q1_8 : x = 28
  · refine r_tsI 79 dX1_rankOf_1 (by rw [q1_8]; decide) (by rw [q1_8]; decide) (off := 78) (by rw [q1_8]; rfl) (by decide) ?_
    refine r_iload_n dX1_rankOf_79 rfl ?_
    refine r_bipush (v := 23) dX1_rankOf_80 (by decide) ?_
    refine r_ic_lt 95 dX1_rankOf_82 (by decide) (fun c82 => ?_) (fun c82 => ?_)
    · exact absurd c82 (by rw [q1_8]; decide)
    · refine r_iload_n dX1_rankOf_85 rfl ?_
      refine r_bipush (v := 28) dX1_rankOf_86 (by decide) ?_
      refine r_ic_gt 95 dX1_rankOf_88 (by decide) (fun c88 => ?_) (fun c88 => ?_)
      · exact absurd c88 (by rw [q1_8]; decide)
      · refine r_iconst (v := 4) dX1_rankOf_91 (by decide) ?_
        refine r_goto 96 dX1_rankOf_92 (by decide) ?_
        exact r_iret dX1_rankOf_96 rfl rfl (congrArg (fun z => some (Value.int z)) (show cRk x = (4 : Int32) by rw [q1_8]; decide +kernel)) rfl
  by_cases q1_9 : x = 29
  · refine r_tsI 77 dX1_rankOf_1 (by rw [q1_9]; decide) (by rw [q1_9]; decide) (off := 76) (by rw [q1_9]; rfl) (by decide) ?_
    refine r_iconst (v := 5) dX1_rankOf_77 (by decide) ?_
    exact r_iret dX1_rankOf_78 rfl rfl (congrArg (fun z => some (Value.int z)) (show cRk x = (5 : Int32) by rw [q1_9]; decide +kernel)) rfl
  by_cases q1_10 : x = 30
  · refine r_tsI 77 dX1_rankOf_1 (by rw [q1_10]; decide) (by rw [q1_10]; decide) (off := 76) (by rw [q1_10]; rfl) (by decide) ?_
    refine r_iconst (v := 5) dX1_rankOf_77 (by decide) ?_
    exact r_iret dX1_rankOf_78 rfl rfl (congrArg (fun z => some (Value.int z)) (show cRk x = (5 : Int32) by rw [q1_10]; decide +kernel)) rfl
  by_cases q1_11 : x = 31
  · refine r_tsI 74 dX1_rankOf_1 (by rw [q1_11]; decide) (by rw [q1_11]; decide) (off := 73) (by rw [q1_11]; rfl) (by decide) ?_
    refine r_bipush (v := 6) dX1_rankOf_74 (by decide) ?_
    exact r_iret dX1_rankOf_76 rfl rfl (congrArg (fun z => some (Value.int z)) (show cRk x = (6 : Int32) by rw [q1_11]; decide +kernel)) rfl
  by_cases q1_12 : x = 32
  · refine r_tsI 74 dX1_rankOf_1 (by rw [q1_12]; decide) (by rw [q1_12]; decide) (off := 73) (by rw [q1_12]; rfl) (by decide) ?_
    refine r_bipush (v := 6) dX1_rankOf_74 (by decide) ?_
    exact r_iret dX1_rankOf_76 rfl rfl (congrArg (fun z => some (Value.int z)) (show cRk x = (6 : Int32) by rw [q1_12]; decide +kernel)) rfl
  refine r_tsO 79 dX1_rankOf_1 (tsout_20_32 q1_0 q1_1 q1_2 q1_3 q1_4 q1_5 q1_6 q1_7 q1_8 q1_9 q1_10 q1_11 q1_12) (by decide) ?_
  refine r_iload_n dX1_rankOf_79 rfl ?_
  refine r_bipush (v := 23) dX1_rankOf_80 (by decide) ?_
  refine r_ic_lt 95 dX1_rankOf_82 (by decide) (fun c82 => ?_) (fun c82 => ?_)
  · refine r_iconst (v := 0) dX1_rankOf_95 (by decide) ?_
    exact r_iret dX1_rankOf_96 rfl rfl (by rw [cRk, if_neg q1_0, if_neg q1_1, if_neg q1_2, if_neg q1_9, if_neg q1_10, if_neg q1_11, if_neg q1_12, if_pos c82]) rfl
  · refine r_iload_n dX1_rankOf_85 rfl ?_
    refine r_bipush (v := 28) dX1_rankOf_86 (by decide) ?_
    refine r_ic_gt 95 dX1_rankOf_88 (by decide) (fun c88 => ?_) (fun c88 => ?_)
    · refine r_iconst (v := 0) dX1_rankOf_95 (by decide) ?_
      exact r_iret dX1_rankOf_96 rfl rfl (by rw [cRk, if_neg q1_0, if_neg q1_1, if_neg q1_2, if_neg q1_9, if_neg q1_10, if_neg q1_11, if_neg q1_12, if_neg c82, if_pos c88]) rfl
    · refine r_iconst (v := 4) dX1_rankOf_91 (by decide) ?_
      refine r_goto 96 dX1_rankOf_92 (by decide) ?_
      exact r_iret dX1_rankOf_96 rfl rfl (by rw [cRk, if_neg q1_0, if_neg q1_1, if_neg q1_2, if_neg q1_9, if_neg q1_10, if_neg q1_11, if_neg q1_12, if_neg c82, if_neg c88]) rfl
set_option maxHeartbeats 1000000 in
theorem k_rank {E : xCl} {ex : Bool} {I : Nat → Nat → Int32} {J : Nat → Nat → Int64} {P : Nat → Nat → Nat} (x : Int32) (d : Nat) : xEx E ex (d + 1) yX11_rank [.int x] (SH, I, J, P) (some (.int (rRk x))) (SH, I, J, P) := by
  refine x_enter cqX11_rank [some (.int x)] rfl (by simp [lg_sl, Value.category]) ?_
  refine r_iload_n dX11_rank_0 rfl ?_
  refine r_bipush (v := 13) dX11_rank_1 (by decide) ?_
  refine r_ic_lt 11 dX11_rank_3 (by decide) (fun c3 => ?_) (fun c3 => ?_)
  · refine r_iload_n dX11_rank_11 rfl ?_
    refine r_bipush (v := 11) dX11_rank_12 (by decide) ?_
    refine r_ic_lt 21 dX11_rank_14 (by decide) (fun c14 => ?_) (fun c14 => ?_)
    · refine r_iload_n dX11_rank_21 rfl ?_
      refine r_iconst (v := 5) dX11_rank_22 (by decide) ?_
      refine r_ic_lt 30 dX11_rank_23 (by decide) (fun c23 => ?_) (fun c23 => ?_)
      · refine r_iload_n dX11_rank_30 rfl ?_
        refine r_iconst (v := 2) dX11_rank_31 (by decide) ?_
        refine r_ic_ne 39 dX11_rank_32 (by decide) (fun c32 => ?_) (fun c32 => ?_)
        · refine r_iload_n dX11_rank_39 rfl ?_
          refine r_iconst (v := 3) dX11_rank_40 (by decide) ?_
          refine r_ic_ne 48 dX11_rank_41 (by decide) (fun c41 => ?_) (fun c41 => ?_)
          · refine r_iload_n dX11_rank_48 rfl ?_
            refine r_iconst (v := 4) dX11_rank_49 (by decide) ?_
            refine r_ic_ne 57 dX11_rank_50 (by decide) (fun c50 => ?_) (fun c50 => ?_)
            · refine r_iconst (v := 0) dX11_rank_57 (by decide) ?_
              exact r_iret dX11_rank_58 rfl rfl (by rw [rRk, if_pos c3, if_pos c14, if_pos c23, if_neg c32, if_neg c41, if_neg c50]) rfl
            · refine r_iconst (v := 1) dX11_rank_53 (by decide) ?_
              refine r_goto 58 dX11_rank_54 (by decide) ?_
              exact r_iret dX11_rank_58 rfl rfl (by rw [rRk, if_pos c3, if_pos c14, if_pos c23, if_neg c32, if_neg c41, if_pos c50]) rfl
          · refine r_iconst (v := 2) dX11_rank_44 (by decide) ?_
            refine r_goto 58 dX11_rank_45 (by decide) ?_
            exact r_iret dX11_rank_58 rfl rfl (by rw [rRk, if_pos c3, if_pos c14, if_pos c23, if_neg c32, if_pos c41]) rfl
        · refine r_iconst (v := 3) dX11_rank_35 (by decide) ?_
          refine r_goto 58 dX11_rank_36 (by decide) ?_
          exact r_iret dX11_rank_58 rfl rfl (by rw [rRk, if_pos c3, if_pos c14, if_pos c23, if_pos c32]) rfl
      · refine r_iconst (v := 4) dX11_rank_26 (by decide) ?_
        refine r_goto 58 dX11_rank_27 (by decide) ?_
        exact r_iret dX11_rank_58 rfl rfl (by rw [rRk, if_pos c3, if_pos c14, if_neg c23]) rfl
    · refine r_iconst (v := 5) dX11_rank_17 (by decide) ?_
      refine r_goto 58 dX11_rank_18 (by decide) ?_
      exact r_iret dX11_rank_58 rfl rfl (by rw [rRk, if_pos c3, if_neg c14]) rfl
  · refine r_bipush (v := 6) dX11_rank_6 (by decide) ?_
    refine r_goto 58 dX11_rank_8 (by decide) ?_
    exact r_iret dX11_rank_58 rfl rfl (by rw [rRk, if_neg c3]) rfl
/-- a waiting sign of the class (its kind) and of the reference (its knot) -/
def wtR (kc kr : Int32) : Prop := (kc = 33 ∧ kr = 0) ∨ (kc = 22 ∧ kr = 2) ∨ (kc = 20 ∧ kr = 3) ∨ (kc = 21 ∧ kr = 4) ∨ (∃ q, q < 6 ∧ kc = nI (23 + q) ∧ kr = nI (5 + q)) ∨ (kc = 29 ∧ kr = 11) ∨ (kc = 30 ∧ kr = 12) ∨ (kc = 31 ∧ kr = 13) ∨ (kc = 32 ∧ kr = 14)
theorem wtR.r {kc kr : Int32} (h : wtR kc kr) : cRk kc = rRk kr := by
  rcases h with ⟨rfl, rfl⟩ | ⟨rfl, rfl⟩ | ⟨rfl, rfl⟩ | ⟨rfl, rfl⟩ | ⟨q, hq, rfl, rfl⟩ | ⟨rfl, rfl⟩ | ⟨rfl, rfl⟩ | ⟨rfl, rfl⟩ | ⟨rfl, rfl⟩
  · decide
  · decide
  · decide
  · decide
  · have : ∀ q, q < 6 → cRk (nI (23 + q)) = rRk (nI (5 + q)) := by decide +kernel
    exact this q hq
  · decide
  · decide
  · decide
  · decide
