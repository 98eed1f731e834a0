/-! faults and numbers -/
def wL (I : Nat → Nat → Int32) (f g r : Int32) : Nat → Nat → Int32 := fun b q => if b = 2 then (if q = 4 then f else if q = 5 then g else if q = 6 then r else I b q) else I b q
theorem wL_o (I : Nat → Nat → Int32) (f g r : Int32) {b : Nat} (h : b ≠ 2) : wL I f g r b = I b := by funext q; simp [wL, h]
theorem wL_4 (I : Nat → Nat → Int32) (f g r : Int32) : wL I f g r 2 4 = f := by simp [wL]
theorem wL_x4 (I : Nat → Nat → Int32) (f g r z : Int32) : xu (wL I f g r) 2 4 z = wL I z g r := by
  funext b q
  simp only [xu, wL]
  by_cases h : b = 2
  · subst h
    by_cases h1 : q = 4
    · subst h1; simp
    · simp [h1]
  · simp [h]
theorem wL_5 (I : Nat → Nat → Int32) (f g r : Int32) : wL I f g r 2 5 = g := by simp [wL]
theorem wL_x5 (I : Nat → Nat → Int32) (f g r z : Int32) : xu (wL I f g r) 2 5 z = wL I f z r := by
  funext b q
  simp only [xu, wL]
  by_cases h : b = 2
  · subst h
    by_cases h1 : q = 5
    · subst h1; simp
    · simp [h1]
  · simp [h]
theorem wL_6 (I : Nat → Nat → Int32) (f g r : Int32) : wL I f g r 2 6 = r := by simp [wL]
theorem wL_x6 (I : Nat → Nat → Int32) (f g r z : Int32) : xu (wL I f g r) 2 6 z = wL I f g z := by
  funext b q
  simp only [xu, wL]
  by_cases h : b = 2
  · subst h
    by_cases h1 : q = 6
    · subst h1; simp
    · simp [h1]
  · simp [h]
def wZ (I : Nat → Nat → Int32) (f g r : Int32) : Nat → Nat → Int32 := fun b q => if b = 347 then (if q = 4 then f else if q = 5 then g else if q = 11 then r else I b q) else I b q
theorem wZ_o (I : Nat → Nat → Int32) (f g r : Int32) {b : Nat} (h : b ≠ 347) : wZ I f g r b = I b := by funext q; simp [wZ, h]
theorem wZ_4 (I : Nat → Nat → Int32) (f g r : Int32) : wZ I f g r 347 4 = f := by simp [wZ]
theorem wZ_x4 (I : Nat → Nat → Int32) (f g r z : Int32) : xu (wZ I f g r) 347 4 z = wZ I z g r := by
  funext b q
  simp only [xu, wZ]
  by_cases h : b = 347
  · subst h
    by_cases h1 : q = 4
    · subst h1; simp
    · simp [h1]
  · simp [h]
theorem wZ_5 (I : Nat → Nat → Int32) (f g r : Int32) : wZ I f g r 347 5 = g := by simp [wZ]
theorem wZ_x5 (I : Nat → Nat → Int32) (f g r z : Int32) : xu (wZ I f g r) 347 5 z = wZ I f z r := by
  funext b q
  simp only [xu, wZ]
  by_cases h : b = 347
  · subst h
    by_cases h1 : q = 5
    · subst h1; simp
    · simp [h1]
  · simp [h]
theorem wZ_11 (I : Nat → Nat → Int32) (f g r : Int32) : wZ I f g r 347 11 = r := by simp [wZ]
theorem wZ_x11 (I : Nat → Nat → Int32) (f g r z : Int32) : xu (wZ I f g r) 347 11 z = wZ I f g z := by
  funext b q
  simp only [xu, wZ]
  by_cases h : b = 347
  · subst h
    by_cases h1 : q = 11
    · subst h1; simp
    · simp [h1]
  · simp [h]
theorem wK_xo (I : Nat → Nat → Int32) (s i p k v : Int32) {b : Nat} (h : b ≠ 28) (q : Nat) (z : Int32) : xu (wK I s i p k v) b q z = wK (xu I b q z) s i p k v := by
  funext b2 q2
  simp only [xu, wK]
  by_cases h2 : b2 = 28
  · subst h2
    rw [if_neg (fun e => h e.1.symm)]
    simp only [if_true]
    split
    · rfl
    · split
      · rfl
      · split
        · rfl
        · split
          · rfl
          · split
            · rfl
            · rw [if_neg (fun e => h e.1.symm)]
  · simp [h2]
theorem wQ_xo (I : Nat → Nat → Int32) (s i k w a : Int32) {q : Nat} (h : q < 6 ∨ 10 < q) (z : Int32) : xu (wQ I s i k w a) 347 q z = wQ (xu I 347 q z) s i k w a := by
  funext b2 q2
  simp only [xu, wQ]
  by_cases h2 : b2 = 347
  · subst h2
    by_cases h3 : q2 = q
    · subst h3
      rw [if_pos ⟨rfl, rfl⟩]
      simp only [if_true]
      rw [if_neg (by omega), if_neg (by omega), if_neg (by omega), if_neg (by omega), if_neg (by omega)]
      simp
    · simp [h3]
  · simp [h2]
/-- the tokens of the class, one further; the same of the reference -/
noncomputable def wKa (I : Nat → Nat → Int32) (T : Nat → Int32) (s i : Nat) (v : Int32) : Nat → Nat → Int32 := wK I (nI s) (nI (cTo T s (cSp T (s - i) i) v).1) (nI (cSp T (s - i) i)) (cTo T s (cSp T (s - i) i) v).2.1 (cTo T s (cSp T (s - i) i) v).2.2
noncomputable def wQa (I : Nat → Nat → Int32) (T : Nat → Int32) (ws : List (List Nat)) (s i : Nat) (w : Int32) : Nat → Nat → Int32 := wQ I (nI s) (nI (rTo T ws s (cSp T (s - i) i) w).1) (rTo T ws s (cSp T (s - i) i) w).2.1 (rTo T ws s (cSp T (s - i) i) w).2.2 (nI (cSp T (s - i) i))
theorem k_advL {E : xCl} {ex : Bool} {I : Nat → Nat → Int32} {J : Nat → Nat → Int64} {P : Nat → Nat → Nat} (hE : EW E) (hP : Pok P) {s : Nat} (hs : s ≤ 700) {i : Nat} (hi : i ≤ s) (p k v f g r : Int32) (d : Nat) : xEx E ex (d + 3) yX8_advance [.ref 28] (SH, wK (wL I f g r) (nI s) (nI i) p k v, J, P) none (SH, wKa (wL I f g r) (I 1) s i v, J, P) := by
  have z := k_advance (E := E) (ex := ex) (I := (wL I f g r)) (J := J) (P := P) hE hP hs hi p k v d
  rw [wL_o I f g r (by decide)] at z
  exact z
theorem k_tokL {E : xCl} {ex : Bool} {I : Nat → Nat → Int32} {J : Nat → Nat → Int64} {P : Nat → Nat → Nat} (hP : Pok P) {s : Nat} (hs : s ≤ 700) {i : Nat} (hi : i ≤ s) {ws : List (List Nat)} (hr : rRow (I 349) 0 ws) (k w a f g r : Int32) (d : Nat) : xEx E ex (d + 2) yX11_token [.ref 347] (SH, wQ (wZ I f g r) (nI s) (nI i) k w a, J, P) none (SH, wQa (wZ I f g r) (I 348) ws s i w, J, P) := by
  have z := k_token (E := E) (ex := ex) (I := wZ I f g r) (J := J) (P := P) hP hs hi (ws := ws) (by rw [wZ_o I f g r (by decide)]; exact hr) k w a d
  rw [wZ_o I f g r (by decide)] at z
  exact z
set_option maxHeartbeats 1000000 in
theorem k_fail {E : xCl} {ex : Bool} {I : Nat → Nat → Int32} {J : Nat → Nat → Int64} {P : Nat → Nat → Nat} (hP : Pok P) {s i p k v f g r : Int32} (n : Int32) (d : Nat) : xEx E ex (d + 1) yX7_fail [.ref 2, .int n] (SH, wK (wL I f g r) s i p k v, J, P) (some (.int 0)) (SH, wK (wL I n p r) s i p k v, J, P) := by
  refine x_enter cqX7_fail [some (.ref 2), some (.int n)] rfl (by simp [lg_sl, Value.category]) ?_
  refine r_aload_n dX7_fail_0 rfl ?_
  refine r_iload_n dX7_fail_1 rfl ?_
  refine r_putIv dX7_fail_2 flX7_45 ⟨_, _, _, rfl, Or.inl rfl⟩ sh_2 (by decide) rfl rfl rfl ((wK_xo _ _ _ _ _ _ (by decide) _ _).trans (congrArg (fun z => wK z _ _ _ _ _) (wL_x4 _ _ _ _ _))) ?_
  refine r_aload_n dX7_fail_5 rfl ?_
  refine r_aload_n dX7_fail_6 rfl ?_
  refine r_getR dX7_fail_7 flX7_32 sh_2 (by decide) rfl (pf_2_0 hP) ?_
  refine r_getIv dX7_fail_10 flX7_96 sh_28 (by decide) rfl (wK_3 _ _ _ _ _ _) ?_
  refine r_putIv dX7_fail_13 flX7_49 ⟨_, _, _, rfl, Or.inl rfl⟩ sh_2 (by decide) rfl rfl rfl ((wK_xo _ _ _ _ _ _ (by decide) _ _).trans (congrArg (fun z => wK z _ _ _ _ _) (wL_x5 _ _ _ _ _))) ?_
  refine r_iconst (v := 0) dX7_fail_16 (by decide) ?_
  exact r_iret dX7_fail_17 rfl rfl rfl rfl
set_option maxHeartbeats 1000000 in
theorem k_hasMore_t {E : xCl} {ex : Bool} {I : Nat → Nat → Int32} {J : Nat → Nat → Int64} {P : Nat → Nat → Nat} (hP : Pok P) {s i p k v f g r : Int32} (h : ¬ k = 38) (d : Nat) : xEx E ex (d + 1) yX7_hasMore [.ref 2] (SH, wK (wL I f g r) s i p k v, J, P) (some (.int 1)) (SH, wK (wL I f g r) s i p k v, J, P) := by
  refine x_enter cqX7_hasMore [some (.ref 2)] rfl (by simp [lg_sl, Value.category]) ?_
  refine r_aload_n dX7_hasMore_0 rfl ?_
  refine r_getR dX7_hasMore_1 flX7_32 sh_2 (by decide) rfl (pf_2_0 hP) ?_
  refine r_getIv dX7_hasMore_4 flX7_61 sh_28 (by decide) rfl (wK_4 _ _ _ _ _ _) ?_
  refine r_bipush (v := 38) dX7_hasMore_7 (by decide) ?_
  refine r_ic_eq 16 dX7_hasMore_9 (by decide) (fun c9 => ?_) (fun c9 => ?_)
  · exact absurd c9 h
  · refine r_iconst (v := 1) dX7_hasMore_12 (by decide) ?_
    refine r_goto 17 dX7_hasMore_13 (by decide) ?_
    exact r_iret dX7_hasMore_17 rfl rfl rfl rfl
set_option maxHeartbeats 1000000 in
theorem k_hasMore_f {E : xCl} {ex : Bool} {I : Nat → Nat → Int32} {J : Nat → Nat → Int64} {P : Nat → Nat → Nat} (hP : Pok P) {s i p k v f g r : Int32} (h : k = 38) (d : Nat) : xEx E ex (d + 1) yX7_hasMore [.ref 2] (SH, wK (wL I f g r) s i p k v, J, P) (some (.int 0)) (SH, wK (wL I f g r) s i p k v, J, P) := by
  refine x_enter cqX7_hasMore [some (.ref 2)] rfl (by simp [lg_sl, Value.category]) ?_
  refine r_aload_n dX7_hasMore_0 rfl ?_
  refine r_getR dX7_hasMore_1 flX7_32 sh_2 (by decide) rfl (pf_2_0 hP) ?_
  refine r_getIv dX7_hasMore_4 flX7_61 sh_28 (by decide) rfl (wK_4 _ _ _ _ _ _) ?_
  refine r_bipush (v := 38) dX7_hasMore_7 (by decide) ?_
  refine r_ic_eq 16 dX7_hasMore_9 (by decide) (fun c9 => ?_) (fun c9 => ?_)
  · refine r_iconst (v := 0) dX7_hasMore_16 (by decide) ?_
    exact r_iret dX7_hasMore_17 rfl rfl rfl rfl
  · exact absurd h c9
set_option maxHeartbeats 1000000 in
theorem k_skip_t {E : xCl} {ex : Bool} {I : Nat → Nat → Int32} {J : Nat → Nat → Int64} {P : Nat → Nat → Nat} (hE : EW E) (hP : Pok P) {s : Nat} (hs : s ≤ 700) {i : Nat} (hi : i ≤ s) {p k v f g r : Int32} {n : Int32} (h : k = n) (d : Nat) : xEx E ex (d + 4) yX7_skip [.ref 2, .int n] (SH, wK (wL I f g r) (nI s) (nI i) p k v, J, P) (some (.int 1)) (SH, wKa (wL I f g r) (I 1) s i v, J, P) := by
  refine x_enter cqX7_skip [some (.ref 2), some (.int n)] rfl (by simp [lg_sl, Value.category]) ?_
  refine r_aload_n dX7_skip_0 rfl ?_
  refine r_getR dX7_skip_1 flX7_32 sh_2 (by decide) rfl (pf_2_0 hP) ?_
  refine r_getIv dX7_skip_4 flX7_61 sh_28 (by decide) rfl (wK_4 _ _ _ _ _ _) ?_
  refine r_iload_n dX7_skip_7 rfl ?_
  refine r_ic_eq 17 dX7_skip_8 (by decide) (fun c8 => ?_) (fun c8 => ?_)
  · refine r_aload_n dX7_skip_17 rfl ?_
    refine r_getR dX7_skip_18 flX7_32 sh_2 (by decide) rfl (pf_2_0 hP) ?_
    refine r_cV0v dX7_skip_21 vlX7_99 sh_28 (Nat.le_of_ble_eq_true rfl) (k_advL hE hP hs hi _ _ _ _ _ _ d) ?_
    refine r_iconst (v := 1) dX7_skip_24 (by decide) ?_
    exact r_iret dX7_skip_25 rfl rfl rfl rfl
  · exact absurd h c8
set_option maxHeartbeats 1000000 in
theorem k_skip_f {E : xCl} {ex : Bool} {I : Nat → Nat → Int32} {J : Nat → Nat → Int64} {P : Nat → Nat → Nat} (hP : Pok P) {s i p k v f g r : Int32} {n : Int32} (h : ¬ k = n) (d : Nat) : xEx E ex (d + 2) yX7_skip [.ref 2, .int n] (SH, wK (wL I f g r) s i p k v, J, P) (some (.int 0)) (SH, wK (wL I 1 p r) s i p k v, J, P) := by
  refine x_enter cqX7_skip [some (.ref 2), some (.int n)] rfl (by simp [lg_sl, Value.category]) ?_
  refine r_aload_n dX7_skip_0 rfl ?_
  refine r_getR dX7_skip_1 flX7_32 sh_2 (by decide) rfl (pf_2_0 hP) ?_
  refine r_getIv dX7_skip_4 flX7_61 sh_28 (by decide) rfl (wK_4 _ _ _ _ _ _) ?_
  refine r_iload_n dX7_skip_7 rfl ?_
  refine r_ic_eq 17 dX7_skip_8 (by decide) (fun c8 => ?_) (fun c8 => ?_)
  · exact absurd c8 h
  · refine r_aload_n dX7_skip_11 rfl ?_
    refine r_iconst (v := 1) dX7_skip_12 (by decide) ?_
    refine r_cV1i dX7_skip_13 vlX7_86 sh_2 (Nat.le_of_ble_eq_true rfl) (k_fail hP 1 d) ?_
    exact r_iret dX7_skip_16 rfl rfl rfl rfl
set_option maxHeartbeats 1000000 in
theorem k_open_t {E : xCl} {ex : Bool} {I : Nat → Nat → Int32} {J : Nat → Nat → Int64} {P : Nat → Nat → Nat} (hE : EW E) (hP : Pok P) {s : Nat} (hs : s ≤ 700) {i : Nat} (hi : i ≤ s) {p k v f g r : Int32} {n m : Int32} (h : n < m) (d : Nat) : xEx E ex (d + 4) yX7_open [.ref 2, .int n, .int m] (SH, wK (wL I f g r) (nI s) (nI i) p k v, J, P) (some (.int 1)) (SH, wKa (wL I f g r) (I 1) s i v, J, P) := by
  refine x_enter cqX7_open [some (.ref 2), some (.int n), some (.int m)] rfl (by simp [lg_sl, Value.category]) ?_
  refine r_iload_n dX7_open_0 rfl ?_
  refine r_iload_n dX7_open_1 rfl ?_
  refine r_ic_lt 11 dX7_open_2 (by decide) (fun c2 => ?_) (fun c2 => ?_)
  · refine r_aload_n dX7_open_11 rfl ?_
    refine r_getR dX7_open_12 flX7_32 sh_2 (by decide) rfl (pf_2_0 hP) ?_
    refine r_cV0v dX7_open_15 vlX7_99 sh_28 (Nat.le_of_ble_eq_true rfl) (k_advL hE hP hs hi _ _ _ _ _ _ d) ?_
    refine r_iconst (v := 1) dX7_open_18 (by decide) ?_
    exact r_iret dX7_open_19 rfl rfl rfl rfl
  · exact absurd h c2
set_option maxHeartbeats 1000000 in
theorem k_open_f {E : xCl} {ex : Bool} {I : Nat → Nat → Int32} {J : Nat → Nat → Int64} {P : Nat → Nat → Nat} (hP : Pok P) {s i p k v f g r : Int32} {n m : Int32} (h : ¬ n < m) (d : Nat) : xEx E ex (d + 2) yX7_open [.ref 2, .int n, .int m] (SH, wK (wL I f g r) s i p k v, J, P) (some (.int 0)) (SH, wK (wL I 2 p r) s i p k v, J, P) := by
  refine x_enter cqX7_open [some (.ref 2), some (.int n), some (.int m)] rfl (by simp [lg_sl, Value.category]) ?_
  refine r_iload_n dX7_open_0 rfl ?_
  refine r_iload_n dX7_open_1 rfl ?_
  refine r_ic_lt 11 dX7_open_2 (by decide) (fun c2 => ?_) (fun c2 => ?_)
  · exact absurd c2 h
  · refine r_aload_n dX7_open_5 rfl ?_
    refine r_iconst (v := 2) dX7_open_6 (by decide) ?_
    refine r_cV1i dX7_open_7 vlX7_86 sh_2 (Nat.le_of_ble_eq_true rfl) (k_fail hP 2 d) ?_
    exact r_iret dX7_open_10 rfl rfl rfl rfl
set_option maxHeartbeats 1000000 in
theorem k_tnum_1 {E : xCl} {ex : Bool} {I : Nat → Nat → Int32} {J : Nat → Nat → Int64} {P : Nat → Nat → Nat} (hP : Pok P) {s i p k v f g r : Int32} {n m : Int32} (h : ¬ k = 36) (d : Nat) : xEx E ex (d + 2) yX7_number [.ref 2, .int n, .int m] (SH, wK (wL I f g r) s i p k v, J, P) (some (.int 0)) (SH, wK (wL I 1 p r) s i p k v, J, P) := by
  refine x_enter cqX7_number [some (.ref 2), some (.int n), some (.int m)] rfl (by simp [lg_sl, Value.category]) ?_
  refine r_aload_n dX7_number_0 rfl ?_
  refine r_getR dX7_number_1 flX7_32 sh_2 (by decide) rfl (pf_2_0 hP) ?_
  refine r_getIv dX7_number_4 flX7_61 sh_28 (by decide) rfl (wK_4 _ _ _ _ _ _) ?_
  refine r_bipush (v := 36) dX7_number_7 (by decide) ?_
  refine r_ic_eq 18 dX7_number_9 (by decide) (fun c9 => ?_) (fun c9 => ?_)
  · exact absurd c9 h
  · refine r_aload_n dX7_number_12 rfl ?_
    refine r_iconst (v := 1) dX7_number_13 (by decide) ?_
    refine r_cV1i dX7_number_14 vlX7_86 sh_2 (Nat.le_of_ble_eq_true rfl) (k_fail hP 1 d) ?_
    exact r_iret dX7_number_17 rfl rfl rfl rfl
set_option maxHeartbeats 1000000 in
theorem k_tnum_2 {E : xCl} {ex : Bool} {I : Nat → Nat → Int32} {J : Nat → Nat → Int64} {P : Nat → Nat → Nat} (hP : Pok P) {s i p k v f g r : Int32} {n m : Int32} (h : k = 36) (h2 : ¬ (¬ v < n ∧ ¬ m < v)) (d : Nat) : xEx E ex (d + 2) yX7_number [.ref 2, .int n, .int m] (SH, wK (wL I f g r) s i p k v, J, P) (some (.int 0)) (SH, wK (wL I 2 p r) s i p k v, J, P) := by
  refine x_enter cqX7_number [some (.ref 2), some (.int n), some (.int m)] rfl (by simp [lg_sl, Value.category]) ?_
  refine r_aload_n dX7_number_0 rfl ?_
  refine r_getR dX7_number_1 flX7_32 sh_2 (by decide) rfl (pf_2_0 hP) ?_
  refine r_getIv dX7_number_4 flX7_61 sh_28 (by decide) rfl (wK_4 _ _ _ _ _ _) ?_
  refine r_bipush (v := 36) dX7_number_7 (by decide) ?_
  refine r_ic_eq 18 dX7_number_9 (by decide) (fun c9 => ?_) (fun c9 => ?_)
  · refine r_aload_n dX7_number_18 rfl ?_
    refine r_getR dX7_number_19 flX7_32 sh_2 (by decide) rfl (pf_2_0 hP) ?_
    refine r_getIv dX7_number_22 flX7_102 sh_28 (by decide) rfl (wK_5 _ _ _ _ _ _) ?_
    refine r_iload_n dX7_number_25 rfl ?_
    refine r_ic_lt 40 dX7_number_26 (by decide) (fun c26 => ?_) (fun c26 => ?_)
    · refine r_aload_n dX7_number_40 rfl ?_
      refine r_iconst (v := 2) dX7_number_41 (by decide) ?_
      refine r_cV1i dX7_number_42 vlX7_86 sh_2 (Nat.le_of_ble_eq_true rfl) (k_fail hP 2 d) ?_
      exact r_iret dX7_number_45 rfl rfl rfl rfl
    · refine r_aload_n dX7_number_29 rfl ?_
      refine r_getR dX7_number_30 flX7_32 sh_2 (by decide) rfl (pf_2_0 hP) ?_
      refine r_getIv dX7_number_33 flX7_102 sh_28 (by decide) rfl (wK_5 _ _ _ _ _ _) ?_
      refine r_iload_n dX7_number_36 rfl ?_
      refine r_ic_le 46 dX7_number_37 (by decide) (fun c37 => ?_) (fun c37 => ?_)
      · exact absurd ⟨c26, Int32.not_lt.mpr c37⟩ h2
      · refine r_aload_n dX7_number_40 rfl ?_
        refine r_iconst (v := 2) dX7_number_41 (by decide) ?_
        refine r_cV1i dX7_number_42 vlX7_86 sh_2 (Nat.le_of_ble_eq_true rfl) (k_fail hP 2 d) ?_
        exact r_iret dX7_number_45 rfl rfl rfl rfl
  · exact absurd h c9
set_option maxHeartbeats 1000000 in
theorem k_tnum_t {E : xCl} {ex : Bool} {I : Nat → Nat → Int32} {J : Nat → Nat → Int64} {P : Nat → Nat → Nat} (hE : EW E) (hP : Pok P) {s : Nat} (hs : s ≤ 700) {i : Nat} (hi : i ≤ s) {p k v f g r : Int32} {n m : Int32} (h : k = 36) (h2 : ¬ v < n ∧ ¬ m < v) (d : Nat) : xEx E ex (d + 4) yX7_number [.ref 2, .int n, .int m] (SH, wK (wL I f g r) (nI s) (nI i) p k v, J, P) (some (.int 1)) (SH, wKa (wL I f g v) (I 1) s i v, J, P) := by
  refine x_enter cqX7_number [some (.ref 2), some (.int n), some (.int m)] rfl (by simp [lg_sl, Value.category]) ?_
  refine r_aload_n dX7_number_0 rfl ?_
  refine r_getR dX7_number_1 flX7_32 sh_2 (by decide) rfl (pf_2_0 hP) ?_
  refine r_getIv dX7_number_4 flX7_61 sh_28 (by decide) rfl (wK_4 _ _ _ _ _ _) ?_
  refine r_bipush (v := 36) dX7_number_7 (by decide) ?_
  refine r_ic_eq 18 dX7_number_9 (by decide) (fun c9 => ?_) (fun c9 => ?_)
  · refine r_aload_n dX7_number_18 rfl ?_
    refine r_getR dX7_number_19 flX7_32 sh_2 (by decide) rfl (pf_2_0 hP) ?_
    refine r_getIv dX7_number_22 flX7_102 sh_28 (by decide) rfl (wK_5 _ _ _ _ _ _) ?_
    refine r_iload_n dX7_number_25 rfl ?_
    refine r_ic_lt 40 dX7_number_26 (by decide) (fun c26 => ?_) (fun c26 => ?_)
    · exact absurd c26 h2.1
    · refine r_aload_n dX7_number_29 rfl ?_
      refine r_getR dX7_number_30 flX7_32 sh_2 (by decide) rfl (pf_2_0 hP) ?_
      refine r_getIv dX7_number_33 flX7_102 sh_28 (by decide) rfl (wK_5 _ _ _ _ _ _) ?_
      refine r_iload_n dX7_number_36 rfl ?_
      refine r_ic_le 46 dX7_number_37 (by decide) (fun c37 => ?_) (fun c37 => ?_)
      · refine r_aload_n dX7_number_46 rfl ?_
        refine r_aload_n dX7_number_47 rfl ?_
        refine r_getR dX7_number_48 flX7_32 sh_2 (by decide) rfl (pf_2_0 hP) ?_
        refine r_getIv dX7_number_51 flX7_102 sh_28 (by decide) rfl (wK_5 _ _ _ _ _ _) ?_
        refine r_putIv dX7_number_54 flX7_105 ⟨_, _, _, rfl, Or.inl rfl⟩ sh_2 (by decide) rfl rfl rfl ((wK_xo _ _ _ _ _ _ (by decide) _ _).trans (congrArg (fun z => wK z _ _ _ _ _) (wL_x6 _ _ _ _ _))) ?_
        refine r_aload_n dX7_number_57 rfl ?_
        refine r_getR dX7_number_58 flX7_32 sh_2 (by decide) rfl (pf_2_0 hP) ?_
        refine r_cV0v dX7_number_61 vlX7_99 sh_28 (Nat.le_of_ble_eq_true rfl) (k_advL hE hP hs hi _ _ _ _ _ _ d) ?_
        refine r_iconst (v := 1) dX7_number_64 (by decide) ?_
        exact r_iret dX7_number_65 rfl rfl rfl rfl
      · exact absurd (Int32.not_lt.mp h2.2) c37
  · exact absurd h c9
set_option maxHeartbeats 1000000 in
theorem k_wrong {E : xCl} {ex : Bool} {I : Nat → Nat → Int32} {J : Nat → Nat → Int64} {P : Nat → Nat → Nat} {s i k w a f g r : Int32} (n : Int32) (d : Nat) : xEx E ex (d + 1) yX11_wrong [.ref 347, .int n] (SH, wQ (wZ I f g r) s i k w a, J, P) (some (.int 0)) (SH, wQ (wZ I n a r) s i k w a, J, P) := by
  refine x_enter cqX11_wrong [some (.ref 347), some (.int n)] rfl (by simp [lg_sl, Value.category]) ?_
  refine r_aload_n dX11_wrong_0 rfl ?_
  refine r_iload_n dX11_wrong_1 rfl ?_
  refine r_putIv dX11_wrong_2 flX11_199 ⟨_, _, _, rfl, Or.inl rfl⟩ sh_347 (by decide) rfl rfl rfl ((wQ_xo _ _ _ _ _ _ (by decide) _).trans (congrArg (fun z => wQ z _ _ _ _ _) (wZ_x4 _ _ _ _ _))) ?_
  refine r_aload_n dX11_wrong_5 rfl ?_
  refine r_aload_n dX11_wrong_6 rfl ?_
  refine r_getIv dX11_wrong_7 flX11_202 sh_347 (by decide) rfl (wQ_10 _ _ _ _ _ _) ?_
  refine r_putIv dX11_wrong_10 flX11_16 ⟨_, _, _, rfl, Or.inl rfl⟩ sh_347 (by decide) rfl rfl rfl ((wQ_xo _ _ _ _ _ _ (by decide) _).trans (congrArg (fun z => wQ z _ _ _ _ _) (wZ_x5 _ _ _ _ _))) ?_
  refine r_iconst (v := 0) dX11_wrong_13 (by decide) ?_
  exact r_iret dX11_wrong_14 rfl rfl rfl rfl
set_option maxHeartbeats 1000000 in
theorem k_isKey_t {E : xCl} {ex : Bool} {I : Nat → Nat → Int32} {J : Nat → Nat → Int64} {P : Nat → Nat → Nat} {s i k w a f g r : Int32} {n : Int32} (h : (k = 1 ∧ w = n)) (d : Nat) : xEx E ex (d + 1) yX11_isKey [.ref 347, .int n] (SH, wQ (wZ I f g r) s i k w a, J, P) (some (.int 1)) (SH, wQ (wZ I f g r) s i k w a, J, P) := by
  refine x_enter cqX11_isKey [some (.ref 347), some (.int n)] rfl (by simp [lg_sl, Value.category]) ?_
  refine r_aload_n dX11_isKey_0 rfl ?_
  refine r_getIv dX11_isKey_1 flX11_211 sh_347 (by decide) rfl (wQ_8 _ _ _ _ _ _) ?_
  refine r_iconst (v := 1) dX11_isKey_4 (by decide) ?_
  refine r_ic_ne 20 dX11_isKey_5 (by decide) (fun c5 => ?_) (fun c5 => ?_)
  · exact absurd h.1 c5
  · refine r_aload_n dX11_isKey_8 rfl ?_
    refine r_getIv dX11_isKey_9 flX11_222 sh_347 (by decide) rfl (wQ_9 _ _ _ _ _ _) ?_
    refine r_iload_n dX11_isKey_12 rfl ?_
    refine r_ic_ne 20 dX11_isKey_13 (by decide) (fun c13 => ?_) (fun c13 => ?_)
    · exact absurd h.2 c13
    · refine r_iconst (v := 1) dX11_isKey_16 (by decide) ?_
      refine r_goto 21 dX11_isKey_17 (by decide) ?_
      exact r_iret dX11_isKey_21 rfl rfl rfl rfl
set_option maxHeartbeats 1000000 in
theorem k_isKey_f {E : xCl} {ex : Bool} {I : Nat → Nat → Int32} {J : Nat → Nat → Int64} {P : Nat → Nat → Nat} {s i k w a f g r : Int32} {n : Int32} (h : ¬ (k = 1 ∧ w = n)) (d : Nat) : xEx E ex (d + 1) yX11_isKey [.ref 347, .int n] (SH, wQ (wZ I f g r) s i k w a, J, P) (some (.int 0)) (SH, wQ (wZ I f g r) s i k w a, J, P) := by
  refine x_enter cqX11_isKey [some (.ref 347), some (.int n)] rfl (by simp [lg_sl, Value.category]) ?_
  refine r_aload_n dX11_isKey_0 rfl ?_
  refine r_getIv dX11_isKey_1 flX11_211 sh_347 (by decide) rfl (wQ_8 _ _ _ _ _ _) ?_
  refine r_iconst (v := 1) dX11_isKey_4 (by decide) ?_
  refine r_ic_ne 20 dX11_isKey_5 (by decide) (fun c5 => ?_) (fun c5 => ?_)
  · refine r_iconst (v := 0) dX11_isKey_20 (by decide) ?_
    exact r_iret dX11_isKey_21 rfl rfl rfl rfl
  · refine r_aload_n dX11_isKey_8 rfl ?_
    refine r_getIv dX11_isKey_9 flX11_222 sh_347 (by decide) rfl (wQ_9 _ _ _ _ _ _) ?_
    refine r_iload_n dX11_isKey_12 rfl ?_
    refine r_ic_ne 20 dX11_isKey_13 (by decide) (fun c13 => ?_) (fun c13 => ?_)
    · refine r_iconst (v := 0) dX11_isKey_20 (by decide) ?_
      exact r_iret dX11_isKey_21 rfl rfl rfl rfl
    · exact absurd ⟨c5, c13⟩ h
set_option maxHeartbeats 1000000 in
theorem k_isSign_t {E : xCl} {ex : Bool} {I : Nat → Nat → Int32} {J : Nat → Nat → Int64} {P : Nat → Nat → Nat} {s i k w a f g r : Int32} {n : Int32} (h : (k = 4 ∧ w = n)) (d : Nat) : xEx E ex (d + 1) yX11_isSign [.ref 347, .int n] (SH, wQ (wZ I f g r) s i k w a, J, P) (some (.int 1)) (SH, wQ (wZ I f g r) s i k w a, J, P) := by
  refine x_enter cqX11_isSign [some (.ref 347), some (.int n)] rfl (by simp [lg_sl, Value.category]) ?_
  refine r_aload_n dX11_isSign_0 rfl ?_
  refine r_getIv dX11_isSign_1 flX11_211 sh_347 (by decide) rfl (wQ_8 _ _ _ _ _ _) ?_
  refine r_iconst (v := 4) dX11_isSign_4 (by decide) ?_
  refine r_ic_ne 20 dX11_isSign_5 (by decide) (fun c5 => ?_) (fun c5 => ?_)
  · exact absurd h.1 c5
  · refine r_aload_n dX11_isSign_8 rfl ?_
    refine r_getIv dX11_isSign_9 flX11_222 sh_347 (by decide) rfl (wQ_9 _ _ _ _ _ _) ?_
    refine r_iload_n dX11_isSign_12 rfl ?_
    refine r_ic_ne 20 dX11_isSign_13 (by decide) (fun c13 => ?_) (fun c13 => ?_)
    · exact absurd h.2 c13
    · refine r_iconst (v := 1) dX11_isSign_16 (by decide) ?_
      refine r_goto 21 dX11_isSign_17 (by decide) ?_
      exact r_iret dX11_isSign_21 rfl rfl rfl rfl
set_option maxHeartbeats 1000000 in
theorem k_isSign_f {E : xCl} {ex : Bool} {I : Nat → Nat → Int32} {J : Nat → Nat → Int64} {P : Nat → Nat → Nat} {s i k w a f g r : Int32} {n : Int32} (h : ¬ (k = 4 ∧ w = n)) (d : Nat) : xEx E ex (d + 1) yX11_isSign [.ref 347, .int n] (SH, wQ (wZ I f g r) s i k w a, J, P) (some (.int 0)) (SH, wQ (wZ I f g r) s i k w a, J, P) := by
  refine x_enter cqX11_isSign [some (.ref 347), some (.int n)] rfl (by simp [lg_sl, Value.category]) ?_
  refine r_aload_n dX11_isSign_0 rfl ?_
  refine r_getIv dX11_isSign_1 flX11_211 sh_347 (by decide) rfl (wQ_8 _ _ _ _ _ _) ?_
  refine r_iconst (v := 4) dX11_isSign_4 (by decide) ?_
  refine r_ic_ne 20 dX11_isSign_5 (by decide) (fun c5 => ?_) (fun c5 => ?_)
  · refine r_iconst (v := 0) dX11_isSign_20 (by decide) ?_
    exact r_iret dX11_isSign_21 rfl rfl rfl rfl
  · refine r_aload_n dX11_isSign_8 rfl ?_
    refine r_getIv dX11_isSign_9 flX11_222 sh_347 (by decide) rfl (wQ_9 _ _ _ _ _ _) ?_
    refine r_iload_n dX11_isSign_12 rfl ?_
    refine r_ic_ne 20 dX11_isSign_13 (by decide) (fun c13 => ?_) (fun c13 => ?_)
    · refine r_iconst (v := 0) dX11_isSign_20 (by decide) ?_
      exact r_iret dX11_isSign_21 rfl rfl rfl rfl
    · exact absurd ⟨c5, c13⟩ h
set_option maxHeartbeats 1000000 in
theorem k_rnum_1 {E : xCl} {ex : Bool} {I : Nat → Nat → Int32} {J : Nat → Nat → Int64} {P : Nat → Nat → Nat} {s i k w a f g r : Int32} {n m : Int32} (h : ¬ k = 3) (d : Nat) : xEx E ex (d + 2) yX11_number [.ref 347, .int n, .int m] (SH, wQ (wZ I f g r) s i k w a, J, P) (some (.int 0)) (SH, wQ (wZ I 1 a r) s i k w a, J, P) := by
  refine x_enter cqX11_number [some (.ref 347), some (.int n), some (.int m)] rfl (by simp [lg_sl, Value.category]) ?_
  refine r_aload_n dX11_number_0 rfl ?_
  refine r_getIv dX11_number_1 flX11_211 sh_347 (by decide) rfl (wQ_8 _ _ _ _ _ _) ?_
  refine r_iconst (v := 3) dX11_number_4 (by decide) ?_
  refine r_ic_eq 14 dX11_number_5 (by decide) (fun c5 => ?_) (fun c5 => ?_)
  · exact absurd c5 h
  · refine r_aload_n dX11_number_8 rfl ?_
    refine r_iconst (v := 1) dX11_number_9 (by decide) ?_
    refine r_cV1i dX11_number_10 vlX11_235 sh_347 (Nat.le_of_ble_eq_true rfl) (k_wrong 1 d) ?_
    exact r_iret dX11_number_13 rfl rfl rfl rfl
set_option maxHeartbeats 1000000 in
theorem k_rnum_2 {E : xCl} {ex : Bool} {I : Nat → Nat → Int32} {J : Nat → Nat → Int64} {P : Nat → Nat → Nat} {s i k w a f g r : Int32} {n m : Int32} (h : k = 3) (h2 : ¬ (¬ w < n ∧ ¬ m < w)) (d : Nat) : xEx E ex (d + 2) yX11_number [.ref 347, .int n, .int m] (SH, wQ (wZ I f g r) s i k w a, J, P) (some (.int 0)) (SH, wQ (wZ I 2 a r) s i k w a, J, P) := by
  refine x_enter cqX11_number [some (.ref 347), some (.int n), some (.int m)] rfl (by simp [lg_sl, Value.category]) ?_
  refine r_aload_n dX11_number_0 rfl ?_
  refine r_getIv dX11_number_1 flX11_211 sh_347 (by decide) rfl (wQ_8 _ _ _ _ _ _) ?_
  refine r_iconst (v := 3) dX11_number_4 (by decide) ?_
  refine r_ic_eq 14 dX11_number_5 (by decide) (fun c5 => ?_) (fun c5 => ?_)
  · refine r_aload_n dX11_number_14 rfl ?_
    refine r_getIv dX11_number_15 flX11_222 sh_347 (by decide) rfl (wQ_9 _ _ _ _ _ _) ?_
    refine r_iload_n dX11_number_18 rfl ?_
    refine r_iload_n dX11_number_19 rfl ?_
    refine r_cS3i dX11_number_20 slX11_238 (Nat.le_of_ble_eq_true rfl) (k_isIn_f h2 d) ?_
    refine r_if_ne 32 dX11_number_23 (by decide) (fun c23 => ?_) (fun c23 => ?_)
    · exact absurd c23 (by decide)
    · refine r_aload_n dX11_number_26 rfl ?_
      refine r_iconst (v := 2) dX11_number_27 (by decide) ?_
      refine r_cV1i dX11_number_28 vlX11_235 sh_347 (Nat.le_of_ble_eq_true rfl) (k_wrong 2 d) ?_
      exact r_iret dX11_number_31 rfl rfl rfl rfl
  · exact absurd h c5
set_option maxHeartbeats 1000000 in
theorem k_rnum_t {E : xCl} {ex : Bool} {I : Nat → Nat → Int32} {J : Nat → Nat → Int64} {P : Nat → Nat → Nat} (hP : Pok P) {s : Nat} (hs : s ≤ 700) {i : Nat} (hi : i ≤ s) {ws : List (List Nat)} (hr : rRow (I 349) 0 ws) {k w a f g r : Int32} {n m : Int32} (h : k = 3) (h2 : ¬ w < n ∧ ¬ m < w) (d : Nat) : xEx E ex (d + 3) yX11_number [.ref 347, .int n, .int m] (SH, wQ (wZ I f g r) (nI s) (nI i) k w a, J, P) (some (.int 1)) (SH, wQa (wZ I f g w) (I 348) ws s i w, J, P) := by
  refine x_enter cqX11_number [some (.ref 347), some (.int n), some (.int m)] rfl (by simp [lg_sl, Value.category]) ?_
  refine r_aload_n dX11_number_0 rfl ?_
  refine r_getIv dX11_number_1 flX11_211 sh_347 (by decide) rfl (wQ_8 _ _ _ _ _ _) ?_
  refine r_iconst (v := 3) dX11_number_4 (by decide) ?_
  refine r_ic_eq 14 dX11_number_5 (by decide) (fun c5 => ?_) (fun c5 => ?_)
  · refine r_aload_n dX11_number_14 rfl ?_
    refine r_getIv dX11_number_15 flX11_222 sh_347 (by decide) rfl (wQ_9 _ _ _ _ _ _) ?_
    refine r_iload_n dX11_number_18 rfl ?_
    refine r_iload_n dX11_number_19 rfl ?_
    refine r_cS3i dX11_number_20 slX11_238 (Nat.le_of_ble_eq_true rfl) (k_isIn_t h2 (d + 1)) ?_
    refine r_if_ne 32 dX11_number_23 (by decide) (fun c23 => ?_) (fun c23 => ?_)
    · refine r_aload_n dX11_number_32 rfl ?_
      refine r_aload_n dX11_number_33 rfl ?_
      refine r_getIv dX11_number_34 flX11_222 sh_347 (by decide) rfl (wQ_9 _ _ _ _ _ _) ?_
      refine r_putIv dX11_number_37 flX11_242 ⟨_, _, _, rfl, Or.inl rfl⟩ sh_347 (by decide) rfl rfl rfl ((wQ_xo _ _ _ _ _ _ (by decide) _).trans (congrArg (fun z => wQ z _ _ _ _ _) (wZ_x11 _ _ _ _ _))) ?_
      refine r_aload_n dX11_number_40 rfl ?_
      refine r_cV0v dX11_number_41 vlX11_245 sh_347 (Nat.le_of_ble_eq_true rfl) (k_tokL hP hs hi hr _ _ _ _ _ _ d) ?_
      refine r_iconst (v := 1) dX11_number_44 (by decide) ?_
      exact r_iret dX11_number_45 rfl rfl rfl rfl
    · exact absurd c23 (by decide)
  · exact absurd h c5
