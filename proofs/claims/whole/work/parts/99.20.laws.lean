/-! laws on both sides: leaves -/
/-- the first n that wait: a brackets, c signs between two parts -/
def Wt (K M : Nat → Nat → Int32) : Nat → Nat → Nat → Prop
  | 0, a, c => a = 0 ∧ c = 0
  | n + 1, a, c => wtR (K 30 n) (M 372 n) ∧ ((K 30 n = 33 ∧ ∃ a', a = a' + 1 ∧ Wt K M n a' c) ∨ (K 30 n = 22 ∧ Wt K M n a c) ∨ (¬ K 30 n = 33 ∧ ¬ K 30 n = 22 ∧ ∃ c', c = c' + 1 ∧ Wt K M n a c'))
theorem Wt.le {K M : Nat → Nat → Int32} : ∀ {n a c : Nat}, Wt K M n a c → a + c ≤ n
  | 0, _, _, h => by have := h.1; have := h.2; omega
  | n + 1, _, _, ⟨_, h⟩ => by
    rcases h with ⟨-, a', h1, h2⟩ | ⟨-, h2⟩ | ⟨-, -, c', h1, h2⟩
    · have := h2.le; omega
    · have := h2.le; omega
    · have := h2.le; omega
theorem Wt.c {K M K' M' : Nat → Nat → Int32} : ∀ {n a c : Nat}, Wt K M n a c → (∀ k, k < n → K' 30 k = K 30 k) → (∀ k, k < n → M' 372 k = M 372 k) → Wt K' M' n a c
  | 0, _, _, h, _, _ => h
  | n + 1, _, _, ⟨h0, h⟩, hK, hM => by
    have ih : ∀ {a c : Nat}, Wt K M n a c → Wt K' M' n a c := fun z => z.c (fun k hk => hK k (by omega)) (fun k hk => hM k (by omega))
    refine ⟨by rw [hK n (by omega), hM n (by omega)]; exact h0, ?_⟩
    rw [hK n (by omega)]
    rcases h with ⟨h1, a', h2, h3⟩ | ⟨h1, h2⟩ | ⟨h1, h2, c', h3, h4⟩
    · exact Or.inl ⟨h1, a', h2, ih h3⟩
    · exact Or.inr (Or.inl ⟨h1, ih h2⟩)
    · exact Or.inr (Or.inr ⟨h1, h2, c', h3, ih h4⟩)
/-- both while a law is read: from knot s0 on, q knots stand, cnt are counted, n wait, a brackets, h are held, hs; a part is wanted (w) -/
def jR (s0 q cnt n a h : Nat) (hs : List Nat) (w : Int32) (K M : Nat → Nat → Int32) : Prop := q ≤ 64 ∧ cnt ≤ 64 ∧ a ≤ 8 ∧ n + q = cnt + a ∧ (∃ c, Wt K M n a c ∧ h = c + (if w = 0 then 1 else 0)) ∧ K 29 2 = nI n ∧ M 347 44 = nI n ∧ K 29 3 = nI a ∧ M 347 46 = nI a ∧ K 29 4 = w ∧ M 347 48 = w ∧ K 29 5 = M 347 49 ∧ K 507 6 = nI q ∧ M 347 19 = nI q ∧ K 507 5 = nI cnt ∧ M 347 47 = nI cnt ∧ M 347 45 = nI h ∧ s0 ≤ q ∧ hs.length = h ∧ Ws K M s0 (q - s0) hs ∧ ∀ j, j < h → M 373 j = nI (hs.getD (h - 1 - j) 0)
theorem jR.n72 {s0 q cnt n a h : Nat} {hs : List Nat} {w : Int32} {K M : Nat → Nat → Int32} (z : jR s0 q cnt n a h hs w K M) : n ≤ 72 ∧ h ≤ 73 := by
  obtain ⟨z1, z2, z3, z4, ⟨c, z5, z6⟩, -⟩ := z
  have := z5.le
  have : (if w = 0 then 1 else 0) ≤ 1 := by split <;> omega
  omega
theorem k_rankx {E : xCl} {ex : Bool} {S : xS} (hS : S.1 = SH) (x : Int32) {n : Nat} (hn : 1 ≤ n) : xEx E ex n yX1_rankOf [.int x] S (some (.int (cRk x))) S := by
  obtain ⟨sh, I, J, P⟩ := S
  cases hS
  exact x_le hn (k_rankOf x 0)
theorem k_ranky {E : xCl} {ex : Bool} {S : xS} (hS : S.1 = SH) (x : Int32) {n : Nat} (hn : 1 ≤ n) : xEx E ex n yX11_rank [.int x] S (some (.int (rRk x))) S := by
  obtain ⟨sh, I, J, P⟩ := S
  cases hS
  exact x_le hn (k_rank x 0)
set_option maxHeartbeats 1000000 in
theorem psh_c {K : Nat → Nat → Int32} {w : Nat} (hw : K 29 2 = nI w) (hn0 : w < 72) (x : Int32) : cRun true 1 yX1_pushWaiting (fun _ => [.ref 29, .int x]) K none (xu (xu K 30 w x) 29 2 (nI (w + 1))) := by
  refine cAt.run (h := 0) cqX1_pushWaiting (ls := [some (.ref 29), some (.int x)]) rfl (by simp [lg_sl, Value.category]) ?_
  intro E ex t I J P n hn ht hE hq
  refine r_aload_n dX1_pushWaiting_0 rfl ?_
  refine r_getIv dX1_pushWaiting_1 flX1_23 sh_29 (by decide) rfl (uC_cv ht (by decide) hw) ?_
  refine r_bipush (v := 72) dX1_pushWaiting_4 (by decide) ?_
  refine r_ic_ge 29 dX1_pushWaiting_6 (by decide) (fun c6 => ?_) (fun c6 => ?_)
  · exact absurd c6 (nI_ge (a := w) (b := 72) hn0 (by decide))
  · refine r_aload_n dX1_pushWaiting_9 rfl ?_
    refine r_getR dX1_pushWaiting_10 flX1_11 sh_29 (by decide) rfl (pf_29_1 hq.1) ?_
    refine r_aload_n dX1_pushWaiting_13 rfl ?_
    refine r_getIv dX1_pushWaiting_14 flX1_23 sh_29 (by decide) rfl (uC_cv ht (by decide) hw) ?_
    refine r_iload_n dX1_pushWaiting_17 rfl ?_
    refine r_iasv dX1_pushWaiting_18 sh_30 (vp_in_nI (n := w) (by omega) (by decide)) ((congrArg (fun z => xu _ _ z _) (nI_clamp (n := w) (by omega))).trans (uC_xc ht (by decide) _ _)) ?_
    refine r_aload_n dX1_pushWaiting_19 rfl ?_
    refine r_dup dX1_pushWaiting_20 rfl ?_
    refine r_getIv dX1_pushWaiting_21 flX1_23 sh_29 (by decide) rfl (uC_cv ht (by decide) ((xu_ne (by omega)).trans hw)) ?_
    refine r_iconst (v := 1) dX1_pushWaiting_24 (by decide) ?_
    refine r_iadd dX1_pushWaiting_25 ?_
    rw [nI_1]
    refine r_putIv dX1_pushWaiting_26 flX1_23 ⟨_, _, _, rfl, Or.inl rfl⟩ sh_29 (by decide) rfl rfl rfl (uC_xc ht (by decide) _ _) ?_
    exact r_vret dX1_pushWaiting_29 rfl rfl rfl
set_option maxHeartbeats 1000000 in
theorem lr_0 {K : Nat → Nat → Int32} (hw : K 29 2 = nI 0) : cRun true 2 yX1_lastRank (fun _ => [.ref 29]) K (some (.int 0)) K := by
  refine cAt.run (h := 1) cqX1_lastRank (ls := [some (.ref 29)]) rfl (by simp [lg_sl, Value.category]) ?_
  intro E ex t I J P n hn ht hE hq
  refine r_aload_n dX1_lastRank_0 rfl ?_
  refine r_getIv dX1_lastRank_1 flX1_23 sh_29 (by decide) rfl (uC_cv ht (by decide) hw) ?_
  refine r_if_le 33 dX1_lastRank_4 (by decide) (fun c4 => ?_) (fun c4 => ?_)
  · refine r_iconst (v := 0) dX1_lastRank_33 (by decide) ?_
    exact r_iret dX1_lastRank_34 rfl rfl rfl rfl
  · exact absurd (by decide) c4
set_option maxHeartbeats 1000000 in
theorem lr_s {K : Nat → Nat → Int32} {m : Nat} (hw : K 29 2 = nI (m + 1)) (hn0 : m < 72) : cRun true 2 yX1_lastRank (fun _ => [.ref 29]) K (some (.int (cRk (K 30 m)))) K := by
  refine cAt.run (h := 1) cqX1_lastRank (ls := [some (.ref 29)]) rfl (by simp [lg_sl, Value.category]) ?_
  intro E ex t I J P n hn ht hE hq
  refine r_aload_n dX1_lastRank_0 rfl ?_
  refine r_getIv dX1_lastRank_1 flX1_23 sh_29 (by decide) rfl (uC_cv ht (by decide) hw) ?_
  refine r_if_le 33 dX1_lastRank_4 (by decide) (fun c4 => ?_) (fun c4 => ?_)
  · exact absurd c4 (nI_nle (by omega) (by omega))
  · refine r_aload_n dX1_lastRank_7 rfl ?_
    refine r_getIv dX1_lastRank_8 flX1_23 sh_29 (by decide) rfl (uC_cv ht (by decide) hw) ?_
    refine r_bipush (v := 72) dX1_lastRank_11 (by decide) ?_
    refine r_ic_gt 33 dX1_lastRank_13 (by decide) (fun c13 => ?_) (fun c13 => ?_)
    · exact absurd c13 (Int32.not_lt.mpr (nI_le (a := m + 1) (b := 72) (by omega) (by decide)))
    · refine r_aload_n dX1_lastRank_16 rfl ?_
      refine r_getR dX1_lastRank_17 flX1_11 sh_29 (by decide) rfl (pf_29_1 hq.1) ?_
      refine r_aload_n dX1_lastRank_20 rfl ?_
      refine r_getIv dX1_lastRank_21 flX1_23 sh_29 (by decide) rfl (uC_cv ht (by decide) hw) ?_
      refine r_iconst (v := 1) dX1_lastRank_24 (by decide) ?_
      refine r_isub dX1_lastRank_25 ?_
      rw [nI_pred]
      refine r_ialv dX1_lastRank_26 sh_30 (vp_in_nI (n := m) (by omega) (by decide)) ((uC_c ht (by decide) _).trans (congrArg (K 30) (nI_clamp (n := m) (by omega)))) ?_
      refine r_cS1i dX1_lastRank_27 slX1_97 (Nat.le_of_ble_eq_true rfl) (k_rankx rfl _ (by omega)) ?_
      refine r_goto 34 dX1_lastRank_30 (by decide) ?_
      exact r_iret dX1_lastRank_34 rfl rfl rfl rfl
set_option maxHeartbeats 1000000 in
theorem put_c {K : Nat → Nat → Int32} {q : Nat} (hw : K 507 6 = nI q) (hn0 : q < 64) (x : Int32) : cRun true 1 yX2_put (fun t => [.ref (t + 7), .int x]) K none (xu (xu K 508 q x) 507 6 (nI (q + 1))) := by
  intro E ex t I J P n hn ht hE hq
  obtain ⟨d, rfl⟩ : ∃ d, n = d + 1 := ⟨n - 1, by omega⟩
  refine x_enter cqX2_put [some (.ref (t + 7)), some (.int x)] rfl (by simp [lg_sl, Value.category]) ?_
  refine r_aload_n dX2_put_0 rfl ?_
  refine r_getIv dX2_put_1 flX2_34 (tl_w _ ht) (by decide) rfl ((uC_tb (b := 507) (by decide) (by decide) _).trans hw) ?_
  refine r_bipush (v := 64) dX2_put_4 (by decide) ?_
  refine r_ic_ge 29 dX2_put_6 (by decide) (fun c6 => ?_) (fun c6 => ?_)
  · exact absurd c6 (nI_ge (a := q) (b := 64) hn0 (by decide))
  · refine r_aload_n dX2_put_9 rfl ?_
    refine r_getR dX2_put_10 flX2_11 (tl_w _ ht) (by decide) rfl (tw_p0 hq.1 _ ht) ?_
    refine r_aload_n dX2_put_13 rfl ?_
    refine r_getIv dX2_put_14 flX2_34 (tl_w _ ht) (by decide) rfl ((uC_tb (b := 507) (by decide) (by decide) _).trans hw) ?_
    refine r_iload_n dX2_put_17 rfl ?_
    refine r_iasv dX2_put_18 (tw_a0 _ ht) (vp_in_nI (n := q) (by omega) (by decide)) ((congrArg (fun z => xu _ _ z _) (nI_clamp (n := q) (by omega))).trans (uC_xb (b := 508) (by decide) (by decide) _ _ ht)) ?_
    refine r_aload_n dX2_put_19 rfl ?_
    refine r_dup dX2_put_20 rfl ?_
    refine r_getIv dX2_put_21 flX2_34 (tl_w _ ht) (by decide) rfl ((uC_tb (b := 507) (by decide) (by decide) _).trans ((xu_ne (by omega)).trans hw)) ?_
    refine r_iconst (v := 1) dX2_put_24 (by decide) ?_
    refine r_iadd dX2_put_25 ?_
    rw [nI_1]
    refine r_putIv dX2_put_26 flX2_34 ⟨_, _, _, rfl, Or.inl rfl⟩ (tl_w _ ht) (by decide) rfl rfl rfl (uC_xb (b := 507) (by decide) (by decide) _ _ ht) ?_
    exact r_vret dX2_put_29 rfl rfl rfl
set_option maxHeartbeats 1000000 in
theorem wf_r {M : Nat → Nat → Int32} {w : Nat} (hw : M 347 44 = nI w) (hn0 : w < 96) (x : Int32) : rRun 1 yX11_waitsFor [.ref 347, .int x] M none (xu (xu M 372 w x) 347 44 (nI (w + 1))) := by
  refine rAt.run (h := 0) cqX11_waitsFor (ls := [some (.ref 347), some (.int x)]) rfl (by simp [lg_sl, Value.category]) ?_
  intro E ex I J P n hn hP
  refine r_aload_n dX11_waitsFor_0 rfl ?_
  refine r_getR dX11_waitsFor_1 flX11_87 sh_347 (by decide) rfl (pf_347_42 hP) ?_
  refine r_aload_n dX11_waitsFor_4 rfl ?_
  refine r_getIv dX11_waitsFor_5 flX11_327 sh_347 (by decide) rfl (uR_v (by decide) hw) ?_
  refine r_iload_n dX11_waitsFor_8 rfl ?_
  refine r_iasv dX11_waitsFor_9 sh_372 (vp_in_nI (n := w) (by omega) (by decide)) ((congrArg (fun z => xu _ _ z _) (nI_clamp (n := w) (by omega))).trans (uR_x (by decide) _ _)) ?_
  refine r_aload_n dX11_waitsFor_10 rfl ?_
  refine r_dup dX11_waitsFor_11 rfl ?_
  refine r_getIv dX11_waitsFor_12 flX11_327 sh_347 (by decide) rfl (uR_v (by decide) ((xu_ne (by omega)).trans hw)) ?_
  refine r_iconst (v := 1) dX11_waitsFor_15 (by decide) ?_
  refine r_iadd dX11_waitsFor_16 ?_
  rw [nI_1]
  refine r_putIv dX11_waitsFor_17 flX11_327 ⟨_, _, _, rfl, Or.inl rfl⟩ sh_347 (by decide) rfl rfl rfl (uR_x (by decide) _ _) ?_
  exact r_vret dX11_waitsFor_20 rfl rfl rfl
set_option maxHeartbeats 1000000 in
theorem gr_r {M : Nat → Nat → Int32} {q h : Nat} (hw : M 347 19 = nI q) (hh : M 347 45 = nI h) (hq0 : q < 64) (hh0 : h < 96) (x1 x2 x3 : Int32) : rRun 1 yX11_grown [.ref 347, .int x1, .int x2, .int x3] M none (xu (xu (xu (xu (xu (xu M 369 (64 + q) x1) 370 (64 + q) x2) 371 (64 + q) x3) 373 h (nI q)) 347 45 (nI (h + 1))) 347 19 (nI (q + 1))) := by
  refine rAt.run (h := 0) cqX11_grown (ls := [some (.ref 347), some (.int x1), some (.int x2), some (.int x3)]) rfl (by simp [lg_sl, Value.category]) ?_
  intro E ex I J P n hn hP
  refine r_aload_n dX11_grown_0 rfl ?_
  refine r_getR dX11_grown_1 flX11_78 sh_347 (by decide) rfl (pf_347_39 hP) ?_
  refine r_bipush (v := 64) dX11_grown_4 (by decide) ?_
  refine r_aload_n dX11_grown_6 rfl ?_
  refine r_getIv dX11_grown_7 flX11_264 sh_347 (by decide) rfl (uR_v (by decide) hw) ?_
  refine r_iadd dX11_grown_10 ?_
  rw [show (64 : Int32) + nI q = nI (64 + q) from nI_add 64 q]
  refine r_iload_n dX11_grown_11 rfl ?_
  refine r_iasv dX11_grown_12 sh_369 (vp_in_nI (n := 64 + q) (by omega) (by decide)) ((congrArg (fun z => xu _ _ z _) (nI_clamp (n := 64 + q) (by omega))).trans (uR_x (by decide) _ _)) ?_
  refine r_aload_n dX11_grown_13 rfl ?_
  refine r_getR dX11_grown_14 flX11_81 sh_347 (by decide) rfl (pf_347_40 hP) ?_
  refine r_bipush (v := 64) dX11_grown_17 (by decide) ?_
  refine r_aload_n dX11_grown_19 rfl ?_
  refine r_getIv dX11_grown_20 flX11_264 sh_347 (by decide) rfl (uR_v (by decide) ((xu_ne (by omega)).trans hw)) ?_
  refine r_iadd dX11_grown_23 ?_
  rw [show (64 : Int32) + nI q = nI (64 + q) from nI_add 64 q]
  refine r_iload_n dX11_grown_24 rfl ?_
  refine r_iasv dX11_grown_25 sh_370 (vp_in_nI (n := 64 + q) (by omega) (by decide)) ((congrArg (fun z => xu _ _ z _) (nI_clamp (n := 64 + q) (by omega))).trans (uR_x (by decide) _ _)) ?_
  refine r_aload_n dX11_grown_26 rfl ?_
  refine r_getR dX11_grown_27 flX11_84 sh_347 (by decide) rfl (pf_347_41 hP) ?_
  refine r_bipush (v := 64) dX11_grown_30 (by decide) ?_
  refine r_aload_n dX11_grown_32 rfl ?_
  refine r_getIv dX11_grown_33 flX11_264 sh_347 (by decide) rfl (uR_v (by decide) ((xu_ne (by omega)).trans ((xu_ne (by omega)).trans hw))) ?_
  refine r_iadd dX11_grown_36 ?_
  rw [show (64 : Int32) + nI q = nI (64 + q) from nI_add 64 q]
  refine r_iload_n dX11_grown_37 rfl ?_
  refine r_iasv dX11_grown_38 sh_371 (vp_in_nI (n := 64 + q) (by omega) (by decide)) ((congrArg (fun z => xu _ _ z _) (nI_clamp (n := 64 + q) (by omega))).trans (uR_x (by decide) _ _)) ?_
  refine r_aload_n dX11_grown_39 rfl ?_
  refine r_getR dX11_grown_40 flX11_90 sh_347 (by decide) rfl (pf_347_43 hP) ?_
  refine r_aload_n dX11_grown_43 rfl ?_
  refine r_getIv dX11_grown_44 flX11_324 sh_347 (by decide) rfl (uR_v (by decide) ((xu_ne (by omega)).trans ((xu_ne (by omega)).trans ((xu_ne (by omega)).trans hh)))) ?_
  refine r_aload_n dX11_grown_47 rfl ?_
  refine r_getIv dX11_grown_48 flX11_264 sh_347 (by decide) rfl (uR_v (by decide) ((xu_ne (by omega)).trans ((xu_ne (by omega)).trans ((xu_ne (by omega)).trans hw)))) ?_
  refine r_iasv dX11_grown_51 sh_373 (vp_in_nI (n := h) (by omega) (by decide)) ((congrArg (fun z => xu _ _ z _) (nI_clamp (n := h) (by omega))).trans (uR_x (by decide) _ _)) ?_
  refine r_aload_n dX11_grown_52 rfl ?_
  refine r_dup dX11_grown_53 rfl ?_
  refine r_getIv dX11_grown_54 flX11_324 sh_347 (by decide) rfl (uR_v (by decide) ((xu_ne (by omega)).trans ((xu_ne (by omega)).trans ((xu_ne (by omega)).trans ((xu_ne (by omega)).trans hh))))) ?_
  refine r_iconst (v := 1) dX11_grown_57 (by decide) ?_
  refine r_iadd dX11_grown_58 ?_
  rw [nI_1]
  refine r_putIv dX11_grown_59 flX11_324 ⟨_, _, _, rfl, Or.inl rfl⟩ sh_347 (by decide) rfl rfl rfl (uR_x (by decide) _ _) ?_
  refine r_aload_n dX11_grown_62 rfl ?_
  refine r_dup dX11_grown_63 rfl ?_
  refine r_getIv dX11_grown_64 flX11_264 sh_347 (by decide) rfl (uR_v (by decide) ((xu_ne (by omega)).trans ((xu_ne (by omega)).trans ((xu_ne (by omega)).trans ((xu_ne (by omega)).trans ((xu_ne (by omega)).trans hw)))))) ?_
  refine r_iconst (v := 1) dX11_grown_67 (by decide) ?_
  refine r_iadd dX11_grown_68 ?_
  rw [nI_1]
  refine r_putIv dX11_grown_69 flX11_264 ⟨_, _, _, rfl, Or.inl rfl⟩ sh_347 (by decide) rfl rfl rfl (uR_x (by decide) _ _) ?_
  exact r_vret dX11_grown_72 rfl rfl rfl
set_option maxHeartbeats 1000000 in
theorem dh_r {M : Nat → Nat → Int32} {h : Nat} (hh : M 347 45 = nI (h + 1)) (hh0 : h < 96) {v : Int32} (hv : M 373 h = v) : rRun 1 yX11_dropHeld [.ref 347] M (some (.int v)) (xu M 347 45 (nI h)) := by
  refine rAt.run (h := 0) cqX11_dropHeld (ls := [some (.ref 347)]) rfl (by simp [lg_sl, Value.category]) ?_
  intro E ex I J P n hn hP
  refine r_aload_n dX11_dropHeld_0 rfl ?_
  refine r_dup dX11_dropHeld_1 rfl ?_
  refine r_getIv dX11_dropHeld_2 flX11_324 sh_347 (by decide) rfl (uR_v (by decide) hh) ?_
  refine r_iconst (v := 1) dX11_dropHeld_5 (by decide) ?_
  refine r_isub dX11_dropHeld_6 ?_
  rw [nI_pred]
  refine r_putIv dX11_dropHeld_7 flX11_324 ⟨_, _, _, rfl, Or.inl rfl⟩ sh_347 (by decide) rfl rfl rfl (uR_x (by decide) _ _) ?_
  refine r_aload_n dX11_dropHeld_10 rfl ?_
  refine r_getR dX11_dropHeld_11 flX11_90 sh_347 (by decide) rfl (pf_347_43 hP) ?_
  refine r_aload_n dX11_dropHeld_14 rfl ?_
  refine r_getIv dX11_dropHeld_15 flX11_324 sh_347 (by decide) rfl (uR_v (by decide) (xu_s _ _ _ _)) ?_
  refine r_ialv dX11_dropHeld_18 sh_373 (vp_in_nI (n := h) (by omega) (by decide)) ((uR_r (by decide) _).trans ((congrArg (xu M 347 45 (nI h) 373) (nI_clamp (n := h) (by omega))).trans ((xu_ne (by omega)).trans hv))) ?_
  exact r_iret dX11_dropHeld_19 rfl rfl rfl rfl
set_option maxHeartbeats 1000000 in
theorem ic_f {M : Nat → Nat → Int32} (hc : M 347 47 = nI 64) : rRun 2 yX11_isCounted [.ref 347] M (some (.int 0)) (fR M 2) := by
  refine rAt.run (h := 1) cqX11_isCounted (ls := [some (.ref 347)]) rfl (by simp [lg_sl, Value.category]) ?_
  intro E ex I J P n hn hP
  refine r_aload_n dX11_isCounted_0 rfl ?_
  refine r_getIv dX11_isCounted_1 flX11_267 sh_347 (by decide) rfl (uR_v (by decide) hc) ?_
  refine r_bipush (v := 64) dX11_isCounted_4 (by decide) ?_
  refine r_ic_ne 15 dX11_isCounted_6 (by decide) (fun c6 => ?_) (fun c6 => ?_)
  · exact absurd (by decide) c6
  · refine r_aload_n dX11_isCounted_9 rfl ?_
    refine r_iconst (v := 2) dX11_isCounted_10 (by decide) ?_
    refine r_cV1i dX11_isCounted_11 vlX11_235 sh_347 (Nat.le_of_ble_eq_true rfl) (wrong_r 2 E ex I J P n (by omega) hP) ?_
    exact r_iret dX11_isCounted_14 rfl rfl rfl rfl
set_option maxHeartbeats 1000000 in
theorem ic_t {M : Nat → Nat → Int32} {c : Nat} (hc : M 347 47 = nI c) (hc0 : c < 64) : rRun 2 yX11_isCounted [.ref 347] M (some (.int 1)) (xu M 347 47 (nI (c + 1))) := by
  refine rAt.run (h := 1) cqX11_isCounted (ls := [some (.ref 347)]) rfl (by simp [lg_sl, Value.category]) ?_
  intro E ex I J P n hn hP
  refine r_aload_n dX11_isCounted_0 rfl ?_
  refine r_getIv dX11_isCounted_1 flX11_267 sh_347 (by decide) rfl (uR_v (by decide) hc) ?_
  refine r_bipush (v := 64) dX11_isCounted_4 (by decide) ?_
  refine r_ic_ne 15 dX11_isCounted_6 (by decide) (fun c6 => ?_) (fun c6 => ?_)
  · refine r_aload_n dX11_isCounted_15 rfl ?_
    refine r_dup dX11_isCounted_16 rfl ?_
    refine r_getIv dX11_isCounted_17 flX11_267 sh_347 (by decide) rfl (uR_v (by decide) hc) ?_
    refine r_iconst (v := 1) dX11_isCounted_20 (by decide) ?_
    refine r_iadd dX11_isCounted_21 ?_
    rw [nI_1]
    refine r_putIv dX11_isCounted_22 flX11_267 ⟨_, _, _, rfl, Or.inl rfl⟩ sh_347 (by decide) rfl rfl rfl (uR_x (by decide) _ _) ?_
    refine r_iconst (v := 1) dX11_isCounted_25 (by decide) ?_
    exact r_iret dX11_isCounted_26 rfl rfl rfl rfl
  · exact absurd ((nI_eq (a := c) (b := 64) (by omega) (by decide)).mp c6) (by omega)
