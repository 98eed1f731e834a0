/-! the reference: knots that grow -/
/-- the numbers with those of the reference's knots: waits, helds, knotsRead; wait, held, and the rows of knots from 64 on -/
def wG (I : Nat → Nat → Int32) (n h q : Nat) (W H A B C : Nat → Int32) : Nat → Nat → Int32 := fun a k => if a = 347 then (if k = 44 then nI n else if k = 45 then nI h else if k = 19 then nI q else I a k) else if a = 372 ∧ k < 96 then W k else if a = 373 ∧ k < 96 then H k else if a = 369 ∧ 64 ≤ k ∧ k < 128 then A (k - 64) else if a = 370 ∧ 64 ≤ k ∧ k < 128 then B (k - 64) else if a = 371 ∧ 64 ≤ k ∧ k < 128 then C (k - 64) else I a k
theorem wG_44 (I : Nat → Nat → Int32) (n h q : Nat) (W H A B C : Nat → Int32) : wG I n h q W H A B C 347 44 = nI n := by simp [wG]
theorem wG_x44 (I : Nat → Nat → Int32) (n h q : Nat) (W H A B C : Nat → Int32) (m : Nat) : xu (wG I n h q W H A B C) 347 44 (nI m) = wG I m h q W H A B C := by
  funext a k
  simp only [xu, wG]
  by_cases e : a = 347
  · subst e
    by_cases h1 : k = 44
    · subst h1; simp
    · simp [h1]
  · simp [e]
theorem wG_45 (I : Nat → Nat → Int32) (n h q : Nat) (W H A B C : Nat → Int32) : wG I n h q W H A B C 347 45 = nI h := by simp [wG]
theorem wG_x45 (I : Nat → Nat → Int32) (n h q : Nat) (W H A B C : Nat → Int32) (m : Nat) : xu (wG I n h q W H A B C) 347 45 (nI m) = wG I n m q W H A B C := by
  funext a k
  simp only [xu, wG]
  by_cases e : a = 347
  · subst e
    by_cases h1 : k = 45
    · subst h1; simp
    · simp [h1]
  · simp [e]
theorem wG_19 (I : Nat → Nat → Int32) (n h q : Nat) (W H A B C : Nat → Int32) : wG I n h q W H A B C 347 19 = nI q := by simp [wG]
theorem wG_x19 (I : Nat → Nat → Int32) (n h q : Nat) (W H A B C : Nat → Int32) (m : Nat) : xu (wG I n h q W H A B C) 347 19 (nI m) = wG I n h m W H A B C := by
  funext a k
  simp only [xu, wG]
  by_cases e : a = 347
  · subst e
    by_cases h1 : k = 19
    · subst h1; simp
    · simp [h1]
  · simp [e]
theorem wG_rW (I : Nat → Nat → Int32) (n h q : Nat) (W H A B C : Nat → Int32) {j : Nat} (hj : j < 96) : wG I n h q W H A B C 372 j = W j := by simp [wG]; try omega
theorem wG_wW (I : Nat → Nat → Int32) (n h q : Nat) (W H A B C : Nat → Int32) {j : Nat} (hj : j < 96) (v : Int32) : xu (wG I n h q W H A B C) 372 j v = wG I n h q (up W j v) H A B C := by
  funext a k
  simp only [xu, wG, up]
  by_cases ha : a = 372
  · subst ha
    by_cases hq : k = j
    · subst hq; simp; try omega
    · simp [hq]
  · simp [ha]
theorem wG_rH (I : Nat → Nat → Int32) (n h q : Nat) (W H A B C : Nat → Int32) {j : Nat} (hj : j < 96) : wG I n h q W H A B C 373 j = H j := by simp [wG]; try omega
theorem wG_wH (I : Nat → Nat → Int32) (n h q : Nat) (W H A B C : Nat → Int32) {j : Nat} (hj : j < 96) (v : Int32) : xu (wG I n h q W H A B C) 373 j v = wG I n h q W (up H j v) A B C := by
  funext a k
  simp only [xu, wG, up]
  by_cases ha : a = 373
  · subst ha
    by_cases hq : k = j
    · subst hq; simp; try omega
    · simp [hq]
  · simp [ha]
theorem wG_rA (I : Nat → Nat → Int32) (n h q : Nat) (W H A B C : Nat → Int32) {j : Nat} (hj : j < 64) : wG I n h q W H A B C 369 (64 + j) = A j := by simp [wG]; try omega
theorem wG_wA (I : Nat → Nat → Int32) (n h q : Nat) (W H A B C : Nat → Int32) {j : Nat} (hj : j < 64) (v : Int32) : xu (wG I n h q W H A B C) 369 (64 + j) v = wG I n h q W H (up A j v) B C := by
  funext a k
  simp only [xu, wG, up]
  by_cases ha : a = 369
  · subst ha
    by_cases hq : k = (64 + j)
    · subst hq; simp; try omega
    · simp [hq]
      by_cases h6 : 64 ≤ k ∧ k < 128
      · rw [if_pos h6, if_pos h6, if_neg (by omega)]
      · rw [if_neg h6, if_neg h6]
  · simp [ha]
theorem wG_rB (I : Nat → Nat → Int32) (n h q : Nat) (W H A B C : Nat → Int32) {j : Nat} (hj : j < 64) : wG I n h q W H A B C 370 (64 + j) = B j := by simp [wG]; try omega
theorem wG_wB (I : Nat → Nat → Int32) (n h q : Nat) (W H A B C : Nat → Int32) {j : Nat} (hj : j < 64) (v : Int32) : xu (wG I n h q W H A B C) 370 (64 + j) v = wG I n h q W H A (up B j v) C := by
  funext a k
  simp only [xu, wG, up]
  by_cases ha : a = 370
  · subst ha
    by_cases hq : k = (64 + j)
    · subst hq; simp; try omega
    · simp [hq]
      by_cases h6 : 64 ≤ k ∧ k < 128
      · rw [if_pos h6, if_pos h6, if_neg (by omega)]
      · rw [if_neg h6, if_neg h6]
  · simp [ha]
theorem wG_rC (I : Nat → Nat → Int32) (n h q : Nat) (W H A B C : Nat → Int32) {j : Nat} (hj : j < 64) : wG I n h q W H A B C 371 (64 + j) = C j := by simp [wG]; try omega
theorem wG_wC (I : Nat → Nat → Int32) (n h q : Nat) (W H A B C : Nat → Int32) {j : Nat} (hj : j < 64) (v : Int32) : xu (wG I n h q W H A B C) 371 (64 + j) v = wG I n h q W H A B (up C j v) := by
  funext a k
  simp only [xu, wG, up]
  by_cases ha : a = 371
  · subst ha
    by_cases hq : k = (64 + j)
    · subst hq; simp; try omega
    · simp [hq]
      by_cases h6 : 64 ≤ k ∧ k < 128
      · rw [if_pos h6, if_pos h6, if_neg (by omega)]
      · rw [if_neg h6, if_neg h6]
  · simp [ha]
set_option maxHeartbeats 1000000 in
theorem k_waitsFor {E : xCl} {ex : Bool} {I : Nat → Nat → Int32} {J : Nat → Nat → Int64} {P : Nat → Nat → Nat} {n h q : Nat} {W H A B C : Nat → Int32} (hP : Pok P) (hn : n < 96) (x : Int32) (d : Nat) : xEx E ex (d + 1) yX11_waitsFor [.ref 347, .int x] (SH, wG I n h q W H A B C, J, P) none (SH, wG I (n + 1) h q (up W n x) H A B C, J, P) := by
  refine x_enter cqX11_waitsFor [some (.ref 347), some (.int x)] rfl (by simp [lg_sl, Value.category]) ?_
  refine r_aload_n dX11_waitsFor_0 rfl ?_
  refine r_getR dX11_waitsFor_1 flX11_87 sh_347 (by decide) rfl (pf_347_42 hP) ?_
  refine r_aload_n dX11_waitsFor_4 rfl ?_
  refine r_getIv dX11_waitsFor_5 flX11_327 sh_347 (by decide) rfl (wG_44 _ _ _ _ _ _ _ _ _) ?_
  refine r_iload_n dX11_waitsFor_8 rfl ?_
  refine r_iasv dX11_waitsFor_9 sh_372 (vp_in_nI (n := n) (by omega) (by decide)) ((congrArg (fun z => xu _ _ z _) (nI_clamp (n := n) (by omega))).trans (wG_wW _ _ _ _ _ _ _ _ _ (j := n) (by omega) _)) ?_
  refine r_aload_n dX11_waitsFor_10 rfl ?_
  refine r_dup dX11_waitsFor_11 rfl ?_
  refine r_getIv dX11_waitsFor_12 flX11_327 sh_347 (by decide) rfl (wG_44 _ _ _ _ _ _ _ _ _) ?_
  refine r_iconst (v := 1) dX11_waitsFor_15 (by decide) ?_
  refine r_iadd dX11_waitsFor_16 ?_
  refine r_putIv dX11_waitsFor_17 flX11_327 ⟨_, _, _, rfl, Or.inl rfl⟩ sh_347 (by decide) rfl rfl rfl ((congrArg (xu _ 347 44) (nI_1 _)).trans (wG_x44 _ _ _ _ _ _ _ _ _ _)) ?_
  exact r_vret dX11_waitsFor_20 rfl rfl rfl
set_option maxHeartbeats 1000000 in
theorem k_grown {E : xCl} {ex : Bool} {I : Nat → Nat → Int32} {J : Nat → Nat → Int64} {P : Nat → Nat → Nat} {n h q : Nat} {W H A B C : Nat → Int32} (hP : Pok P) (hq : q < 64) (hh : h < 96) (x y z : Int32) (d : Nat) : xEx E ex (d + 1) yX11_grown [.ref 347, .int x, .int y, .int z] (SH, wG I n h q W H A B C, J, P) none (SH, wG I n (h + 1) (q + 1) W (up H h (nI q)) (up A q x) (up B q y) (up C q z), J, P) := by
  refine x_enter cqX11_grown [some (.ref 347), some (.int x), some (.int y), some (.int z)] rfl (by simp [lg_sl, Value.category]) ?_
  refine r_aload_n dX11_grown_0 rfl ?_
  refine r_getR dX11_grown_1 flX11_78 sh_347 (by decide) rfl (pf_347_39 hP) ?_
  refine r_bipush (v := 64) dX11_grown_4 (by decide) ?_
  refine r_aload_n dX11_grown_6 rfl ?_
  refine r_getIv dX11_grown_7 flX11_264 sh_347 (by decide) rfl (wG_19 _ _ _ _ _ _ _ _ _) ?_
  refine r_iadd dX11_grown_10 ?_
  refine r_iload_n dX11_grown_11 rfl ?_
  refine r_iasv dX11_grown_12 sh_369 (by rw [show 64 + nI q = nI (64 + q) from nI_add 64 q]; exact vp_in_nI (n := 64 + q) (by omega) (by decide)) ((congrArg (fun z => xu _ _ z _) ((congrArg Int32.toNatClampNeg (show 64 + nI q = nI (64 + q) from nI_add 64 q)).trans (nI_clamp (n := 64 + q) (by omega)))).trans (wG_wA _ _ _ _ _ _ _ _ _ (j := q) (by omega) _)) ?_
  refine r_aload_n dX11_grown_13 rfl ?_
  refine r_getR dX11_grown_14 flX11_81 sh_347 (by decide) rfl (pf_347_40 hP) ?_
  refine r_bipush (v := 64) dX11_grown_17 (by decide) ?_
  refine r_aload_n dX11_grown_19 rfl ?_
  refine r_getIv dX11_grown_20 flX11_264 sh_347 (by decide) rfl (wG_19 _ _ _ _ _ _ _ _ _) ?_
  refine r_iadd dX11_grown_23 ?_
  refine r_iload_n dX11_grown_24 rfl ?_
  refine r_iasv dX11_grown_25 sh_370 (by rw [show 64 + nI q = nI (64 + q) from nI_add 64 q]; exact vp_in_nI (n := 64 + q) (by omega) (by decide)) ((congrArg (fun z => xu _ _ z _) ((congrArg Int32.toNatClampNeg (show 64 + nI q = nI (64 + q) from nI_add 64 q)).trans (nI_clamp (n := 64 + q) (by omega)))).trans (wG_wB _ _ _ _ _ _ _ _ _ (j := q) (by omega) _)) ?_
  refine r_aload_n dX11_grown_26 rfl ?_
  refine r_getR dX11_grown_27 flX11_84 sh_347 (by decide) rfl (pf_347_41 hP) ?_
  refine r_bipush (v := 64) dX11_grown_30 (by decide) ?_
  refine r_aload_n dX11_grown_32 rfl ?_
  refine r_getIv dX11_grown_33 flX11_264 sh_347 (by decide) rfl (wG_19 _ _ _ _ _ _ _ _ _) ?_
  refine r_iadd dX11_grown_36 ?_
  refine r_iload_n dX11_grown_37 rfl ?_
  refine r_iasv dX11_grown_38 sh_371 (by rw [show 64 + nI q = nI (64 + q) from nI_add 64 q]; exact vp_in_nI (n := 64 + q) (by omega) (by decide)) ((congrArg (fun z => xu _ _ z _) ((congrArg Int32.toNatClampNeg (show 64 + nI q = nI (64 + q) from nI_add 64 q)).trans (nI_clamp (n := 64 + q) (by omega)))).trans (wG_wC _ _ _ _ _ _ _ _ _ (j := q) (by omega) _)) ?_
  refine r_aload_n dX11_grown_39 rfl ?_
  refine r_getR dX11_grown_40 flX11_90 sh_347 (by decide) rfl (pf_347_43 hP) ?_
  refine r_aload_n dX11_grown_43 rfl ?_
  refine r_getIv dX11_grown_44 flX11_324 sh_347 (by decide) rfl (wG_45 _ _ _ _ _ _ _ _ _) ?_
  refine r_aload_n dX11_grown_47 rfl ?_
  refine r_getIv dX11_grown_48 flX11_264 sh_347 (by decide) rfl (wG_19 _ _ _ _ _ _ _ _ _) ?_
  refine r_iasv dX11_grown_51 sh_373 (vp_in_nI (n := h) (by omega) (by decide)) ((congrArg (fun z => xu _ _ z _) (nI_clamp (n := h) (by omega))).trans (wG_wH _ _ _ _ _ _ _ _ _ (j := h) (by omega) _)) ?_
  refine r_aload_n dX11_grown_52 rfl ?_
  refine r_dup dX11_grown_53 rfl ?_
  refine r_getIv dX11_grown_54 flX11_324 sh_347 (by decide) rfl (wG_45 _ _ _ _ _ _ _ _ _) ?_
  refine r_iconst (v := 1) dX11_grown_57 (by decide) ?_
  refine r_iadd dX11_grown_58 ?_
  refine r_putIv dX11_grown_59 flX11_324 ⟨_, _, _, rfl, Or.inl rfl⟩ sh_347 (by decide) rfl rfl rfl ((congrArg (xu _ 347 45) (nI_1 _)).trans (wG_x45 _ _ _ _ _ _ _ _ _ _)) ?_
  refine r_aload_n dX11_grown_62 rfl ?_
  refine r_dup dX11_grown_63 rfl ?_
  refine r_getIv dX11_grown_64 flX11_264 sh_347 (by decide) rfl (wG_19 _ _ _ _ _ _ _ _ _) ?_
  refine r_iconst (v := 1) dX11_grown_67 (by decide) ?_
  refine r_iadd dX11_grown_68 ?_
  refine r_putIv dX11_grown_69 flX11_264 ⟨_, _, _, rfl, Or.inl rfl⟩ sh_347 (by decide) rfl rfl rfl ((congrArg (xu _ 347 19) (nI_1 _)).trans (wG_x19 _ _ _ _ _ _ _ _ _ _)) ?_
  exact r_vret dX11_grown_72 rfl rfl rfl
set_option maxHeartbeats 1000000 in
theorem k_dropHeld {E : xCl} {ex : Bool} {I : Nat → Nat → Int32} {J : Nat → Nat → Int64} {P : Nat → Nat → Nat} {n h q : Nat} {W H A B C : Nat → Int32} (hP : Pok P) (hh : h < 96) (d : Nat) : xEx E ex (d + 1) yX11_dropHeld [.ref 347] (SH, wG I n (h + 1) q W H A B C, J, P) (some (.int (H h))) (SH, wG I n h q W H A B C, J, P) := by
  refine x_enter cqX11_dropHeld [some (.ref 347)] rfl (by simp [lg_sl, Value.category]) ?_
  refine r_aload_n dX11_dropHeld_0 rfl ?_
  refine r_dup dX11_dropHeld_1 rfl ?_
  refine r_getIv dX11_dropHeld_2 flX11_324 sh_347 (by decide) rfl (wG_45 _ _ _ _ _ _ _ _ _) ?_
  refine r_iconst (v := 1) dX11_dropHeld_5 (by decide) ?_
  refine r_isub dX11_dropHeld_6 ?_
  refine r_putIv dX11_dropHeld_7 flX11_324 ⟨_, _, _, rfl, Or.inl rfl⟩ sh_347 (by decide) rfl rfl rfl ((congrArg (xu _ 347 45) (nI_pred h)).trans (wG_x45 _ _ _ _ _ _ _ _ _ _)) ?_
  refine r_aload_n dX11_dropHeld_10 rfl ?_
  refine r_getR dX11_dropHeld_11 flX11_90 sh_347 (by decide) rfl (pf_347_43 hP) ?_
  refine r_aload_n dX11_dropHeld_14 rfl ?_
  refine r_getIv dX11_dropHeld_15 flX11_324 sh_347 (by decide) rfl (wG_45 _ _ _ _ _ _ _ _ _) ?_
  refine r_ialv dX11_dropHeld_18 sh_373 (vp_in_nI (n := h) (by omega) (by decide)) ((congrArg (wG I n h q W H A B C 373) (nI_clamp (n := h) (by omega))).trans (wG_rH _ _ _ _ _ _ _ _ _ (by omega))) ?_
  exact r_iret dX11_dropHeld_19 rfl rfl rfl rfl
