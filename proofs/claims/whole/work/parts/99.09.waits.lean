/-! the class: what waits in LawReader -/
/-- the numbers with those of LawReader: waits, opened, wantsPart, mayNegate (cell 29), waiting (cell 30) -/
def wW (I : Nat → Nat → Int32) (n : Nat) (b c e : Int32) (W : Nat → Int32) : Nat → Nat → Int32 := fun a q => if a = 29 then (if q = 2 then nI n else if q = 3 then b else if q = 4 then c else if q = 5 then e else I a q) else if a = 30 ∧ q < 72 then W q else I a q
theorem wW_2 (I : Nat → Nat → Int32) (n : Nat) (b c e : Int32) (W : Nat → Int32) : wW I n b c e W 29 2 = nI n := by simp [wW]
theorem wW_3 (I : Nat → Nat → Int32) (n : Nat) (b c e : Int32) (W : Nat → Int32) : wW I n b c e W 29 3 = b := by simp [wW]
theorem wW_4 (I : Nat → Nat → Int32) (n : Nat) (b c e : Int32) (W : Nat → Int32) : wW I n b c e W 29 4 = c := by simp [wW]
theorem wW_5 (I : Nat → Nat → Int32) (n : Nat) (b c e : Int32) (W : Nat → Int32) : wW I n b c e W 29 5 = e := by simp [wW]
theorem wW_w (I : Nat → Nat → Int32) (n : Nat) (b c e : Int32) (W : Nat → Int32) {k : Nat} (h : k < 72) : wW I n b c e W 30 k = W k := by simp [wW, h]
theorem wW_o (I : Nat → Nat → Int32) (n : Nat) (b c e : Int32) (W : Nat → Int32) {a : Nat} (h : a ≠ 29) (h' : a ≠ 30) (k : Nat) : wW I n b c e W a k = I a k := by simp [wW, h, h']
theorem wW_x2 (I : Nat → Nat → Int32) (n m : Nat) (b c e : Int32) (W : Nat → Int32) : xu (wW I n b c e W) 29 2 (nI m) = wW I m b c e W := by
  funext a q
  simp only [xu, wW]
  by_cases h : a = 29
  · subst h
    by_cases h1 : q = 2
    · subst h1; simp
    · simp [h1]
  · simp [h]
theorem wW_xw (I : Nat → Nat → Int32) (n : Nat) (b c e : Int32) (W : Nat → Int32) {k : Nat} (h : k < 72) (v : Int32) : xu (wW I n b c e W) 30 k v = wW I n b c e (up W k v) := by
  funext a q
  simp only [xu, wW, up]
  by_cases ha : a = 30
  · subst ha
    by_cases hq : q = k
    · subst hq; simp [h]
    · simp [hq]
  · simp [ha]
theorem wW_x3 (I : Nat → Nat → Int32) (n : Nat) (b c e z : Int32) (W : Nat → Int32) : xu (wW I n b c e W) 29 3 z = wW I n z c e W := by
  funext a q
  simp only [xu, wW]
  by_cases h : a = 29
  · subst h
    by_cases h1 : q = 3
    · subst h1; simp
    · simp [h1]
  · simp [h]
theorem wW_x4 (I : Nat → Nat → Int32) (n : Nat) (b c e z : Int32) (W : Nat → Int32) : xu (wW I n b c e W) 29 4 z = wW I n b z e W := by
  funext a q
  simp only [xu, wW]
  by_cases h : a = 29
  · subst h
    by_cases h1 : q = 4
    · subst h1; simp
    · simp [h1]
  · simp [h]
theorem wW_x5 (I : Nat → Nat → Int32) (n : Nat) (b c e z : Int32) (W : Nat → Int32) : xu (wW I n b c e W) 29 5 z = wW I n b c z W := by
  funext a q
  simp only [xu, wW]
  by_cases h : a = 29
  · subst h
    by_cases h1 : q = 5
    · subst h1; simp
    · simp [h1]
  · simp [h]
set_option maxHeartbeats 1000000 in
theorem k_pushWaiting {E : xCl} {ex : Bool} {I : Nat → Nat → Int32} {J : Nat → Nat → Int64} {P : Nat → Nat → Nat} {n : Nat} {b c e : Int32} {W : Nat → Int32} (hP : Pok P) (hn : n < 72) (x : Int32) (d : Nat) : xEx E ex (d + 1) yX1_pushWaiting [.ref 29, .int x] (SH, wW I n b c e W, J, P) none (SH, wW I (n + 1) b c e (up W n x), J, P) := by
  refine x_enter cqX1_pushWaiting [some (.ref 29), some (.int x)] rfl (by simp [lg_sl, Value.category]) ?_
  refine r_aload_n dX1_pushWaiting_0 rfl ?_
  refine r_getIv dX1_pushWaiting_1 flX1_23 sh_29 (by decide) rfl (wW_2 _ _ _ _ _ _) ?_
  refine r_bipush (v := 72) dX1_pushWaiting_4 (by decide) ?_
  refine r_ic_ge 29 dX1_pushWaiting_6 (by decide) (fun c6 => ?_) (fun c6 => ?_)
  · exact absurd c6 (nI_ge (a := n) (b := 72) hn (by decide))
  · refine r_aload_n dX1_pushWaiting_9 rfl ?_
    refine r_getR dX1_pushWaiting_10 flX1_11 sh_29 (by decide) rfl (pf_29_1 hP) ?_
    refine r_aload_n dX1_pushWaiting_13 rfl ?_
    refine r_getIv dX1_pushWaiting_14 flX1_23 sh_29 (by decide) rfl (wW_2 _ _ _ _ _ _) ?_
    refine r_iload_n dX1_pushWaiting_17 rfl ?_
    refine r_iasv dX1_pushWaiting_18 sh_30 (vp_in_nI (n := n) (by omega) (by decide)) ((congrArg (fun z => xu _ 30 z _) (nI_clamp (n := n) (by omega))).trans (wW_xw _ _ _ _ _ _ (by omega) _)) ?_
    refine r_aload_n dX1_pushWaiting_19 rfl ?_
    refine r_dup dX1_pushWaiting_20 rfl ?_
    refine r_getIv dX1_pushWaiting_21 flX1_23 sh_29 (by decide) rfl (wW_2 _ _ _ _ _ _) ?_
    refine r_iconst (v := 1) dX1_pushWaiting_24 (by decide) ?_
    refine r_iadd dX1_pushWaiting_25 ?_
    refine r_putIv dX1_pushWaiting_26 flX1_23 ⟨_, _, _, rfl, Or.inl rfl⟩ sh_29 (by decide) rfl rfl rfl ((congrArg (xu _ 29 2) (nI_1 _)).trans (wW_x2 _ _ _ _ _ _ _)) ?_
    exact r_vret dX1_pushWaiting_29 rfl rfl rfl
def cLr (W : Nat → Int32) (n : Nat) : Int32 := if n = 0 then 0 else cRk (W (n - 1))
set_option maxHeartbeats 1000000 in
theorem k_lastRank_0 {E : xCl} {ex : Bool} {I : Nat → Nat → Int32} {J : Nat → Nat → Int64} {P : Nat → Nat → Nat} {n : Nat} {b c e : Int32} {W : Nat → Int32} (h : n = 0) (d : Nat) : xEx E ex (d + 1) yX1_lastRank [.ref 29] (SH, wW I n b c e W, J, P) (some (.int (cLr W n))) (SH, wW I n b c e W, J, P) := by
  refine x_enter cqX1_lastRank [some (.ref 29)] rfl (by simp [lg_sl, Value.category]) ?_
  refine r_aload_n dX1_lastRank_0 rfl ?_
  refine r_getIv dX1_lastRank_1 flX1_23 sh_29 (by decide) rfl (wW_2 _ _ _ _ _ _) ?_
  refine r_if_le 33 dX1_lastRank_4 (by decide) (fun c4 => ?_) (fun c4 => ?_)
  · refine r_iconst (v := 0) dX1_lastRank_33 (by decide) ?_
    exact r_iret dX1_lastRank_34 rfl rfl (by rw [cLr, if_pos h]) rfl
  · exact absurd (by rw [h]; decide) c4
set_option maxHeartbeats 1000000 in
theorem k_lastRank_s {E : xCl} {ex : Bool} {I : Nat → Nat → Int32} {J : Nat → Nat → Int64} {P : Nat → Nat → Nat} {n : Nat} {b c e : Int32} {W : Nat → Int32} (hP : Pok P) (h : ¬ n = 0) (hn : n ≤ 72) (d : Nat) : xEx E ex (d + 2) yX1_lastRank [.ref 29] (SH, wW I n b c e W, J, P) (some (.int (cLr W n))) (SH, wW I n b c e W, J, P) := by
  refine x_enter cqX1_lastRank [some (.ref 29)] rfl (by simp [lg_sl, Value.category]) ?_
  refine r_aload_n dX1_lastRank_0 rfl ?_
  refine r_getIv dX1_lastRank_1 flX1_23 sh_29 (by decide) rfl (wW_2 _ _ _ _ _ _) ?_
  refine r_if_le 33 dX1_lastRank_4 (by decide) (fun c4 => ?_) (fun c4 => ?_)
  · exact absurd c4 (nI_nle (by omega) (by omega))
  · refine r_aload_n dX1_lastRank_7 rfl ?_
    refine r_getIv dX1_lastRank_8 flX1_23 sh_29 (by decide) rfl (wW_2 _ _ _ _ _ _) ?_
    refine r_bipush (v := 72) dX1_lastRank_11 (by decide) ?_
    refine r_ic_gt 33 dX1_lastRank_13 (by decide) (fun c13 => ?_) (fun c13 => ?_)
    · exact absurd c13 (Int32.not_lt.mpr (nI_le (b := 72) hn (by decide)))
    · refine r_aload_n dX1_lastRank_16 rfl ?_
      refine r_getR dX1_lastRank_17 flX1_11 sh_29 (by decide) rfl (pf_29_1 hP) ?_
      refine r_aload_n dX1_lastRank_20 rfl ?_
      refine r_getIv dX1_lastRank_21 flX1_23 sh_29 (by decide) rfl (wW_2 _ _ _ _ _ _) ?_
      refine r_iconst (v := 1) dX1_lastRank_24 (by decide) ?_
      refine r_isub dX1_lastRank_25 ?_
      rw [nI_pr (by omega)]
      refine r_ialv dX1_lastRank_26 sh_30 (vp_in_nI (n := n - 1) (by omega) (by decide)) ((congrArg (wW I n b c e W 30) (nI_clamp (n := n - 1) (by omega))).trans (wW_w _ _ _ _ _ _ (by omega))) ?_
      refine r_cS1i dX1_lastRank_27 slX1_97 (Nat.le_of_ble_eq_true rfl) (k_rankOf _ d) ?_
      refine r_goto 34 dX1_lastRank_30 (by decide) ?_
      exact r_iret dX1_lastRank_34 rfl rfl (by rw [cLr, if_neg h]) rfl
