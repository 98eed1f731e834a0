/-! laws on both sides: a part -/
def agL (q : Nat) (K K' M M' : Nat → Nat → Int32) : Prop := (∀ a k, ¬ (a = 28 ∨ a = 29 ∨ a = 30 ∨ (a = 507 ∧ (k = 5 ∨ k = 6)) ∨ (a = 508 ∧ q ≤ k)) → K' a k = K a k) ∧ ∀ a k, ¬ ((a = 347 ∧ ((4 ≤ k ∧ k ≤ 11) ∨ k = 19 ∨ (44 ≤ k ∧ k ≤ 49))) ∨ ((369 ≤ a ∧ a ≤ 371) ∧ 64 + q ≤ k) ∨ a = 372 ∨ a = 373) → M' a k = M a k
theorem agL.rf (q : Nat) (K M : Nat → Nat → Int32) : agL q K K M M := ⟨fun _ _ _ => rfl, fun _ _ _ => rfl⟩
theorem agL.tr {q q1 : Nat} {K K1 K2 M M1 M2 : Nat → Nat → Int32} (h : agL q K K1 M M1) (g : agL q1 K1 K2 M1 M2) (hq : q ≤ q1) : agL q K K2 M M2 := ⟨fun a k z => (g.1 a k (by omega)).trans (h.1 a k z), fun a k z => (g.2 a k (by omega)).trans (h.2 a k z)⟩
theorem agW.l {q : Nat} {K K' M M' : Nat → Nat → Int32} (h : agW q K K' M M') : agL q K K' M M' := ⟨fun a k z => h.1 a k (by omega), fun a k z => h.2 a k (by omega)⟩
theorem agL.lf {q : Nat} {K K' M M' : Nat → Nat → Int32} (h : agL q K K' M M') : LF M M' := LF.of fun a k z => h.2 a k (by omega)
theorem jR.c {s0 q cnt n a h : Nat} {hs : List Nat} {w : Int32} {K K' M M' : Nat → Nat → Int32} (z : jR s0 q cnt n a h hs w K M) (hK : ∀ a k, (a = 29 ∨ a = 30 ∨ a = 507 ∨ a = 508) → K' a k = K a k) (hM : ∀ a k, ((a = 347 ∧ (k = 19 ∨ (44 ≤ k ∧ k ≤ 49))) ∨ (369 ≤ a ∧ a ≤ 373)) → M' a k = M a k) : jR s0 q cnt n a h hs w K' M' := by
  obtain ⟨z1, z2, z3, z4, ⟨c, z5, z6⟩, e1, e2, e3, e4, e5, e6, e7, e8, e9, e10, e11, e12, e13, e14, e15, e16⟩ := z
  exact ⟨z1, z2, z3, z4, ⟨c, z5.c (fun k _ => hK _ _ (by omega)) (fun k _ => hM _ _ (by omega)), z6⟩, (hK _ _ (by omega)).trans e1, (hM _ _ (by omega)).trans e2, (hK _ _ (by omega)).trans e3, (hM _ _ (by omega)).trans e4, (hK _ _ (by omega)).trans e5, (hM _ _ (by omega)).trans e6, (hK _ _ (by omega)).trans (e7.trans (hM _ _ (by omega)).symm), (hK _ _ (by omega)).trans e8, (hM _ _ (by omega)).trans e9, (hK _ _ (by omega)).trans e10, (hM _ _ (by omega)).trans e11, (hM _ _ (by omega)).trans e12, e13, e14, e15.c (fun k _ _ => hK _ _ (by omega)) (fun a k _ _ _ => hM _ _ (by omega)), fun j hj => (hM _ _ (by omega)).trans (e16 j hj)⟩
def Qq (s0 q s i p : Nat) (K M : Nat → Nat → Int32) : Option Value → (Nat → Nat → Int32) → Option Value → (Nat → Nat → Int32) → Prop := fun r K1 r' M2 => (∃ f, (f = 1 ∨ f = 2) ∧ r = some (.int f) ∧ r' = some (.int 0) ∧ M2 347 4 = f ∧ M2 347 5 = M 347 10 ∧ K1 28 3 = K 28 3 ∧ agL q K K1 M M2) ∨ (r = some (.int 0) ∧ r' = some (.int 1) ∧ ∃ K2 i' p' q' cnt' n' a' h' hs' w', cRun true 3 yX8_advance (fun _ => [.ref 28]) K1 none K2 ∧ p < i ∧ i ≤ p' ∧ jT s i' p' K2 M2 ∧ q ≤ q' ∧ jR s0 q' cnt' n' a' h' hs' w' K2 M2 ∧ (w' = 0 ∨ w' = 1) ∧ agL q K K2 M M2 ∧ M2 347 4 = M 347 4 ∧ M2 347 5 = M 347 5)
theorem Qq.bad {s0 q s i p : Nat} {K K1 M M1 : Nat → Nat → Int32} {f : Int32} (hf : f = 1 ∨ f = 2) (h3 : K1 28 3 = K 28 3) (h10 : M1 347 10 = M 347 10) (hl : agL q K K1 M M1) : Qq s0 q s i p K M (some (.int f)) K1 (some (.int 0)) (fR M1 f) := Or.inl ⟨f, hf, rfl, rfl, (xu_ne (by omega)).trans (xu_s _ _ _ _), (xu_s _ _ _ _).trans h10, h3, hl.1, fun a k z => (xu_ne (by omega)).trans ((xu_ne (by omega)).trans (hl.2 a k z))⟩
theorem Qq.good {s0 q s i p i' p' q' cnt' n' a' h' : Nat} {hs' : List Nat} {w' : Int32} {K K1 K2 M M1 M2 : Nat → Nat → Int32} (hr : cRun false 3 yX8_advance (fun _ => [.ref 28]) K1 none K2) (hp : p < i) (hi : i ≤ p') (hT : jT s i' p' K2 M2) (ag : agT K1 K2 M1 M2) (hq : q ≤ q') (hj : jR s0 q' cnt' n' a' h' hs' w' K1 M1) (hw : w' = 0 ∨ w' = 1) (hl : agL q K K1 M M1) (h4 : M1 347 4 = M 347 4) (h5 : M1 347 5 = M 347 5) : Qq s0 q s i p K M (some (.int 0)) K1 (some (.int 1)) M2 := Or.inr ⟨rfl, rfl, K2, i', p', q', cnt', n', a', h', hs', w', hr.w, hp, hi, hT, hq, hj.c (fun a k z => ag.1 a k (by omega)) (fun a k z => ag.2 a k (by omega)), hw, ⟨fun a k z => (ag.1 a k (by omega)).trans (hl.1 a k z), fun a k z => (ag.2 a k (by omega)).trans (hl.2 a k z)⟩, (ag.2 _ _ (by omega)).trans h4, (ag.2 _ _ (by omega)).trans h5⟩
theorem TkR.leaf {kc v kr w : Int32} (h : TkR kc v kr w) : (∃ m, m < 7 ∧ kc = nI (13 + m) ∧ kr = 1 ∧ w = nI (16 + m)) ∨ (kc = 36 ∧ kr = 3 ∧ nuR v w) ∨ ((kc < 13 ∨ 19 < kc) ∧ ¬ kc = 36 ∧ (¬ kr = 1 ∨ w < 16) ∧ ¬ kr = 3) := by
  rcases h with ⟨h1, h2⟩ | ⟨m, hm, h1, h2, h3⟩ | ⟨h1, h2, h3⟩ | ⟨h1, h2, h3⟩ | ⟨h1, h2⟩ | ⟨q, hq, h1, h2, h3⟩ | ⟨h1, h2⟩
  · rw [h1, h2]; exact Or.inr (Or.inr ⟨by decide, by decide, Or.inl (by decide), by decide⟩)
  · by_cases e : 13 ≤ m ∧ m < 20
    · refine Or.inl ⟨m - 13, by omega, ?_, h2, ?_⟩
      · rw [h1, show 13 + (m - 13) = m by omega]
      · rw [h3, show kMap m = 16 + (m - 13) by unfold kMap; rw [if_neg (by omega), if_neg (by omega), if_neg (by omega), if_pos (by omega)]; omega]
    · have y : ∀ m, m < 23 → ¬ (13 ≤ m ∧ m < 20) → ((nI m < 13 ∨ 19 < nI m) ∧ ¬ nI m = 36 ∧ nI (kMap m) < 16) := by decide +kernel
      have y := y m hm e
      rw [h1, h2, h3]
      exact Or.inr (Or.inr ⟨y.1, y.2.1, Or.inr y.2.2, by decide⟩)
  · rw [h1, h2]; exact Or.inr (Or.inr ⟨by decide, by decide, Or.inl (by decide), by decide⟩)
  · exact Or.inr (Or.inl ⟨h1, h2, h3⟩)
  · refine Or.inr (Or.inr ?_)
    rcases h2 with h2 | h2 | h2 | h2 | h2 | h2 | h2 <;> (rw [h1, h2.2]; exact ⟨by decide, by decide, Or.inl (by decide), by decide⟩)
  · rw [h1, h3]
    have y : ∀ m, m < 6 → (19 < nI (23 + m)) ∧ ¬ nI (23 + m) = 36 := by decide +kernel
    exact Or.inr (Or.inr ⟨Or.inr (y q hq).1, (y q hq).2, Or.inl (by decide), by decide⟩)
  · rcases h2 with h2 | ⟨h2, h3⟩ <;> (rw [h1, h2]; exact Or.inr (Or.inr ⟨by decide, by decide, Or.inl (by decide), by decide⟩))
theorem nuR.big {v w : Int32} (h : nuR v w) : (∃ x, x ≤ 9999 ∧ v = nI x ∧ w = nI x) ∨ (¬ v < 10000 ∧ ¬ w ≤ 9999) := by
  rcases h with ⟨rfl, x, h1, rfl⟩ | ⟨⟨x, h1, h2, rfl⟩, ⟨x2, h3, h4, rfl⟩⟩
  · by_cases e : x ≤ 9999
    · exact Or.inl ⟨x, e, rfl, rfl⟩
    · exact Or.inr ⟨Int32.not_lt.mpr (nI_le (a := 10000) (b := x) (by omega) (by omega)), nI_ge (a := 9999) (b := x) (by omega) (by omega)⟩
  · exact Or.inr ⟨Int32.not_lt.mpr (nI_le (a := 10000) (b := x) (by omega) (by omega)), nI_ge (a := 9999) (b := x2) (by omega) (by omega)⟩
theorem jR.push {s0 q cnt n a h : Nat} {hs : List Nat} {w : Int32} {K K' M M' : Nat → Nat → Int32} {cnt' a' c' : Nat} {w' kc kr : Int32} (z : jR s0 q cnt n a h hs w K M) (hk : wtR kc kr) (hc : cnt' ≤ 64) (ha : a' ≤ 8) (hn : n + 1 + q = cnt' + a') (hW : (kc = 33 ∧ ∃ b, a' = b + 1 ∧ Wt K M n b c') ∨ (kc = 22 ∧ Wt K M n a' c') ∨ (¬ kc = 33 ∧ ¬ kc = 22 ∧ ∃ d, c' = d + 1 ∧ Wt K M n a' d)) (hh : h = c' + (if w' = 0 then 1 else 0)) (k1 : K' 29 2 = nI (n + 1)) (m1 : M' 347 44 = nI (n + 1)) (k2 : K' 29 3 = nI a') (m2 : M' 347 46 = nI a') (k3 : K' 29 4 = w') (m3 : M' 347 48 = w') (k4 : K' 29 5 = M' 347 49) (k5 : K' 507 5 = nI cnt') (m5 : M' 347 47 = nI cnt') (k6 : K' 30 n = kc) (m6 : M' 372 n = kr) (hK : ∀ a k, (a = 508 ∨ (a = 30 ∧ k < n) ∨ (a = 507 ∧ k = 6)) → K' a k = K a k) (hM : ∀ a k, ((369 ≤ a ∧ a ≤ 371) ∨ a = 373 ∨ (a = 372 ∧ k < n) ∨ (a = 347 ∧ (k = 19 ∨ k = 45))) → M' a k = M a k) : jR s0 q cnt' (n + 1) a' h hs w' K' M' := by
  obtain ⟨z1, z2, z3, z4, -, e1, e2, e3, e4, e5, e6, e7, e8, e9, e10, e11, e12, e13, e14, e15, e16⟩ := z
  have hw : ∀ {a c : Nat}, Wt K M n a c → Wt K' M' n a c := fun y => y.c (fun k hk => hK _ _ (by omega)) (fun k hk => hM _ _ (by omega))
  refine ⟨z1, hc, ha, hn, ⟨c', ⟨by rw [k6, m6]; exact hk, ?_⟩, hh⟩, k1, m1, k2, m2, k3, m3, k4, (hK _ _ (by omega)).trans e8, (hM _ _ (by omega)).trans e9, k5, m5, (hM _ _ (by omega)).trans e12, e13, e14, e15.c (fun k _ _ => hK _ _ (by omega)) (fun a k _ _ _ => hM _ _ (by omega)), fun j hj => (hM _ _ (by omega)).trans (e16 j hj)⟩
  rw [k6]
  rcases hW with ⟨y1, b, y2, y3⟩ | ⟨y1, y2⟩ | ⟨y1, y2, b, y3, y4⟩
  · exact Or.inl ⟨y1, b, y2, hw y3⟩
  · exact Or.inr (Or.inl ⟨y1, hw y2⟩)
  · exact Or.inr (Or.inr ⟨y1, y2, b, y3, hw y4⟩)
theorem jR.leaf {s0 q cnt n a h : Nat} {hs : List Nat} {K K' M M' : Nat → Nat → Int32} (z : jR s0 q cnt n a h hs 1 K M) (hc : cnt < 64) (k5 : K' 507 5 = nI (cnt + 1)) (m5 : M' 347 47 = nI (cnt + 1)) (k6 : K' 507 6 = nI (q + 1)) (m6 : M' 347 19 = nI (q + 1)) (m7 : M' 347 45 = nI (h + 1)) (m8 : M' 373 h = nI q) (k3 : K' 29 4 = 0) (m3 : M' 347 48 = 0) (hL : Lf (K' 508 q) (M' 369 (64 + q)) (M' 370 (64 + q))) (hK : ∀ a k, (a = 30 ∨ (a = 29 ∧ (k = 2 ∨ k = 3 ∨ k = 5)) ∨ (a = 508 ∧ k < q)) → K' a k = K a k) (hM : ∀ a k, (a = 372 ∨ (a = 347 ∧ (k = 44 ∨ k = 46 ∨ k = 49)) ∨ ((369 ≤ a ∧ a ≤ 371) ∧ k < 64 + q) ∨ (a = 373 ∧ k < h)) → M' a k = M a k) : jR s0 (q + 1) (cnt + 1) n a (h + 1) (q :: hs) 0 K' M' := by
  obtain ⟨z1, z2, z3, z4, ⟨c, z5, z6⟩, e1, e2, e3, e4, e5, e6, e7, e8, e9, e10, e11, e12, e13, e14, e15, e16⟩ := z
  have hle := z5.le
  subst e14
  refine ⟨by omega, by omega, z3, by omega, ⟨c, z5.c (fun k _ => hK _ _ (by omega)) (fun k _ => hM _ _ (by omega)), by simpa using z6⟩, (hK _ _ (by omega)).trans e1, (hM _ _ (by omega)).trans e2, (hK _ _ (by omega)).trans e3, (hM _ _ (by omega)).trans e4, k3, m3, (hK _ _ (by omega)).trans (e7.trans (hM _ _ (by omega)).symm), k6, m6, k5, m5, m7, by omega, rfl, ?_, ?_⟩
  · exact Ws_push e13 (Or.inl ⟨hL, e15.c (fun k _ _ => hK _ _ (by omega)) (fun a k _ _ _ => hM _ _ (by omega))⟩)
  · exact Hd_push e16 (fun j hj => hM _ _ (by omega)) m8
set_option maxHeartbeats 1000000 in
theorem ob_f {K : Nat → Nat → Int32} (ha : K 29 3 = nI 8) : cRun true 1 yX1_openBracket (fun _ => [.ref 29]) K (some (.int 2)) K := by
  refine cAt.run (h := 0) cqX1_openBracket (ls := [some (.ref 29)]) rfl (by simp [lg_sl, Value.category]) ?_
  intro E ex t I J P n hn ht hE hq
  refine r_aload_n dX1_openBracket_0 rfl ?_
  refine r_getIv dX1_openBracket_1 flX1_27 sh_29 (by decide) rfl (uC_cv ht (by decide) ha) ?_
  refine r_bipush (v := 8) dX1_openBracket_4 (by decide) ?_
  refine r_ic_lt 11 dX1_openBracket_6 (by decide) (fun c6 => ?_) (fun c6 => ?_)
  · exact absurd c6 (by decide)
  · refine r_iconst (v := 2) dX1_openBracket_9 (by decide) ?_
    exact r_iret dX1_openBracket_10 rfl rfl rfl rfl
set_option maxHeartbeats 1000000 in
theorem ob_t {K : Nat → Nat → Int32} {a w : Nat} (ha : K 29 3 = nI a) (ha0 : a < 8) (hw : K 29 2 = nI w) (hw0 : w < 72) : cRun true 2 yX1_openBracket (fun _ => [.ref 29]) K (some (.int 0)) (xu (xu (xu (xu K 29 3 (nI (a + 1))) 30 w 33) 29 2 (nI (w + 1))) 29 5 1) := by
  refine cAt.run (h := 1) cqX1_openBracket (ls := [some (.ref 29)]) rfl (by simp [lg_sl, Value.category]) ?_
  intro E ex t I J P n hn ht hE hq
  refine r_aload_n dX1_openBracket_0 rfl ?_
  refine r_getIv dX1_openBracket_1 flX1_27 sh_29 (by decide) rfl (uC_cv ht (by decide) ha) ?_
  refine r_bipush (v := 8) dX1_openBracket_4 (by decide) ?_
  refine r_ic_lt 11 dX1_openBracket_6 (by decide) (fun c6 => ?_) (fun c6 => ?_)
  · refine r_aload_n dX1_openBracket_11 rfl ?_
    refine r_dup dX1_openBracket_12 rfl ?_
    refine r_getIv dX1_openBracket_13 flX1_27 sh_29 (by decide) rfl (uC_cv ht (by decide) ha) ?_
    refine r_iconst (v := 1) dX1_openBracket_16 (by decide) ?_
    refine r_iadd dX1_openBracket_17 ?_
    rw [nI_1]
    refine r_putIv dX1_openBracket_18 flX1_27 ⟨_, _, _, rfl, Or.inl rfl⟩ sh_29 (by decide) rfl rfl rfl (uC_xc ht (by decide) _ _) ?_
    refine r_aload_n dX1_openBracket_21 rfl ?_
    refine r_bipush (v := 33) dX1_openBracket_22 (by decide) ?_
    refine r_cV1v dX1_openBracket_24 vlX1_88 sh_29 (Nat.le_of_ble_eq_true rfl) (psh_c ((xu_ne (by omega)).trans hw) hw0 33 E ex t I J P n (by omega) ht hE hq) ?_
    refine r_aload_n dX1_openBracket_27 rfl ?_
    refine r_iconst (v := 1) dX1_openBracket_28 (by decide) ?_
    refine r_putIv dX1_openBracket_29 flX1_34 ⟨_, _, _, rfl, Or.inl rfl⟩ sh_29 (by decide) rfl rfl rfl (uC_xc ht (by decide) _ _) ?_
    refine r_iconst (v := 0) dX1_openBracket_32 (by decide) ?_
    exact r_iret dX1_openBracket_33 rfl rfl rfl rfl
  · exact absurd (nI_lt (a := a) (b := 8) ha0 (by decide)) c6
set_option maxHeartbeats 1000000 in
theorem kw_f {K : Nat → Nat → Int32} (hc : K 507 5 = nI 64) : cRun true 1 yX1_knotWaits (fun _ => [.ref 29]) K (some (.int 2)) K := by
  refine cAt.run (h := 0) cqX1_knotWaits (ls := [some (.ref 29)]) rfl (by simp [lg_sl, Value.category]) ?_
  intro E ex t I J P n hn ht hE hq
  refine r_aload_n dX1_knotWaits_0 rfl ?_
  refine r_getR dX1_knotWaits_1 flX1_19 sh_29 (by decide) rfl (hq.2.2 rfl) ?_
  refine r_getIv dX1_knotWaits_4 flX1_82 (tl_w _ ht) (by decide) rfl ((uC_tb (b := 507) (by decide) (by decide) _).trans hc) ?_
  refine r_bipush (v := 64) dX1_knotWaits_7 (by decide) ?_
  refine r_ic_lt 14 dX1_knotWaits_9 (by decide) (fun c9 => ?_) (fun c9 => ?_)
  · exact absurd c9 (by decide)
  · refine r_iconst (v := 2) dX1_knotWaits_12 (by decide) ?_
    exact r_iret dX1_knotWaits_13 rfl rfl rfl rfl
set_option maxHeartbeats 1000000 in
theorem kw_t {K : Nat → Nat → Int32} {c w : Nat} (hc : K 507 5 = nI c) (hc0 : c < 64) (hw : K 29 2 = nI w) (hw0 : w < 72) : cRun true 2 yX1_knotWaits (fun _ => [.ref 29]) K (some (.int 0)) (xu (xu (xu K 507 5 (nI (c + 1))) 30 w (K 28 4)) 29 2 (nI (w + 1))) := by
  refine cAt.run (h := 1) cqX1_knotWaits (ls := [some (.ref 29)]) rfl (by simp [lg_sl, Value.category]) ?_
  intro E ex t I J P n hn ht hE hq
  refine r_aload_n dX1_knotWaits_0 rfl ?_
  refine r_getR dX1_knotWaits_1 flX1_19 sh_29 (by decide) rfl (hq.2.2 rfl) ?_
  refine r_getIv dX1_knotWaits_4 flX1_82 (tl_w _ ht) (by decide) rfl ((uC_tb (b := 507) (by decide) (by decide) _).trans hc) ?_
  refine r_bipush (v := 64) dX1_knotWaits_7 (by decide) ?_
  refine r_ic_lt 14 dX1_knotWaits_9 (by decide) (fun c9 => ?_) (fun c9 => ?_)
  · refine r_aload_n dX1_knotWaits_14 rfl ?_
    refine r_getR dX1_knotWaits_15 flX1_19 sh_29 (by decide) rfl (hq.2.2 rfl) ?_
    refine r_dup dX1_knotWaits_18 rfl ?_
    refine r_getIv dX1_knotWaits_19 flX1_82 (tl_w _ ht) (by decide) rfl ((uC_tb (b := 507) (by decide) (by decide) _).trans hc) ?_
    refine r_iconst (v := 1) dX1_knotWaits_22 (by decide) ?_
    refine r_iadd dX1_knotWaits_23 ?_
    rw [nI_1]
    refine r_putIv dX1_knotWaits_24 flX1_82 ⟨_, _, _, rfl, Or.inl rfl⟩ (tl_w _ ht) (by decide) rfl rfl rfl (uC_xb (b := 507) (by decide) (by decide) _ _ ht) ?_
    refine r_aload_n dX1_knotWaits_27 rfl ?_
    refine r_aload_n dX1_knotWaits_28 rfl ?_
    refine r_getR dX1_knotWaits_29 flX1_15 sh_29 (by decide) rfl (pf_29_0 hq.1) ?_
    refine r_getIv dX1_knotWaits_32 flX1_68 sh_28 (by decide) rfl (uC_cv ht (by decide) (xu_ne (by omega))) ?_
    refine r_cV1v dX1_knotWaits_35 vlX1_88 sh_29 (Nat.le_of_ble_eq_true rfl) (psh_c ((xu_ne (by omega)).trans hw) hw0 (K 28 4) E ex t I J P n (by omega) ht hE hq) ?_
    refine r_iconst (v := 0) dX1_knotWaits_38 (by decide) ?_
    exact r_iret dX1_knotWaits_39 rfl rfl rfl rfl
  · exact absurd (nI_lt (a := c) (b := 64) hc0 (by decide)) c9
set_option maxHeartbeats 1000000 in
theorem nm_r_t {M : Nat → Nat → Int32} (h : M 347 8 = 1) (h2 : ¬ M 347 9 < 16) : rRun 1 yX11_nameMet [.ref 347] M (some (.int (M 347 9 - 16))) M := by
  refine rAt.run (h := 0) cqX11_nameMet (ls := [some (.ref 347)]) rfl (by simp [lg_sl, Value.category]) ?_
  intro E ex I J P n hn hP
  refine r_aload_n dX11_nameMet_0 rfl ?_
  refine r_getIv dX11_nameMet_1 flX11_211 sh_347 (by decide) rfl (uR_r (by decide) _) ?_
  refine r_iconst (v := 1) dX11_nameMet_4 (by decide) ?_
  refine r_ic_ne 27 dX11_nameMet_5 (by decide) (fun c5 => ?_) (fun c5 => ?_)
  · exact absurd h c5
  · refine r_aload_n dX11_nameMet_8 rfl ?_
    refine r_getIv dX11_nameMet_9 flX11_222 sh_347 (by decide) rfl (uR_r (by decide) _) ?_
    refine r_bipush (v := 16) dX11_nameMet_12 (by decide) ?_
    refine r_ic_lt 27 dX11_nameMet_14 (by decide) (fun c14 => ?_) (fun c14 => ?_)
    · exact absurd c14 h2
    · refine r_aload_n dX11_nameMet_17 rfl ?_
      refine r_getIv dX11_nameMet_18 flX11_222 sh_347 (by decide) rfl (uR_r (by decide) _) ?_
      refine r_bipush (v := 16) dX11_nameMet_21 (by decide) ?_
      refine r_isub dX11_nameMet_23 ?_
      refine r_goto 28 dX11_nameMet_24 (by decide) ?_
      exact r_iret dX11_nameMet_28 rfl rfl rfl rfl
set_option maxHeartbeats 1000000 in
theorem nm_r_f {M : Nat → Nat → Int32} (h : ¬ M 347 8 = 1 ∨ M 347 9 < 16) : rRun 1 yX11_nameMet [.ref 347] M (some (.int (-1))) M := by
  refine rAt.run (h := 0) cqX11_nameMet (ls := [some (.ref 347)]) rfl (by simp [lg_sl, Value.category]) ?_
  intro E ex I J P n hn hP
  refine r_aload_n dX11_nameMet_0 rfl ?_
  refine r_getIv dX11_nameMet_1 flX11_211 sh_347 (by decide) rfl (uR_r (by decide) _) ?_
  refine r_iconst (v := 1) dX11_nameMet_4 (by decide) ?_
  refine r_ic_ne 27 dX11_nameMet_5 (by decide) (fun c5 => ?_) (fun c5 => ?_)
  · refine r_iconst (v := (-1)) dX11_nameMet_27 (by decide) ?_
    exact r_iret dX11_nameMet_28 rfl rfl rfl rfl
  · refine r_aload_n dX11_nameMet_8 rfl ?_
    refine r_getIv dX11_nameMet_9 flX11_222 sh_347 (by decide) rfl (uR_r (by decide) _) ?_
    refine r_bipush (v := 16) dX11_nameMet_12 (by decide) ?_
    refine r_ic_lt 27 dX11_nameMet_14 (by decide) (fun c14 => ?_) (fun c14 => ?_)
    · refine r_iconst (v := (-1)) dX11_nameMet_27 (by decide) ?_
      exact r_iret dX11_nameMet_28 rfl rfl rfl rfl
    · exact absurd h (fun z => z.elim (fun y => y c5) c14)
theorem nI_m16 (m : Nat) : nI (m + 16) - 16 = nI m := by rw [← nI_add m 16]; exact Int32.add_sub_cancel (nI m) (nI 16)
set_option maxHeartbeats 8000000 in
theorem leaf_J {s0 q cnt n a h : Nat} {hs : List Nat} {s i p : Nat} {K M : Nat → Nat → Int32} (z : jR s0 q cnt n a h hs 1 K M) (gt : jT s i p K M) : JG (cAt true 2 yX1_part cX1_part (some .int) 37 [some (.ref 29), some (.int (K 28 4)), none] [] K) (rAt 3 yX11_leafRead cX11_leafRead (some .boolean) 86 [some (.ref 347), none] [] M) (Qq s0 q s i p K M) := by
  have z' := z
  obtain ⟨z1, z2, z3, z4, ⟨c, z5, z6⟩, e1, e2, e3, e4, e5, e6, e7, e8, e9, e10, e11, e12, e13, e14, e15, e16⟩ := z'
  have hle := z5.le
  have h72 := z.n72
  rcases gt.tk.leaf with ⟨m, y0, y1, y2, y3⟩ | ⟨y1, y2, y3⟩ | ⟨y1, y2, y3, y4⟩
  case inr.inr =>
    refine JG.fin (r := some (.int 1)) (r' := some (.int 0)) (K' := K) (M' := fR M 1) ?_ ?_ ?_
    · rcases y1 with y1 | y1
      · intro E ex t I J P n hn ht hE hq
        refine r_iload_n dX1_part_37 rfl ?_
        refine r_bipush (v := 13) dX1_part_38 (by decide) ?_
        refine r_ic_lt 53 dX1_part_40 (by decide) (fun c40 => ?_) (fun c40 => ?_)
        · refine r_iconst (v := 0) dX1_part_53 (by decide) ?_
          refine r_istore_n2 dX1_part_54 rfl ?_
          refine r_iload_n dX1_part_55 rfl ?_
          refine r_bipush (v := 36) dX1_part_56 (by decide) ?_
          refine r_ic_eq 67 dX1_part_58 (by decide) (fun c58 => ?_) (fun c58 => ?_)
          · exact absurd c58 y2
          · refine r_iload_n dX1_part_61 rfl ?_
            refine r_if_ne 67 dX1_part_62 (by decide) (fun c62 => ?_) (fun c62 => ?_)
            · exact absurd c62 (by decide)
            · refine r_iconst (v := 1) dX1_part_65 (by decide) ?_
              exact r_iret dX1_part_66 rfl rfl rfl rfl
        · exact absurd y1 c40
      · intro E ex t I J P n hn ht hE hq
        refine r_iload_n dX1_part_37 rfl ?_
        refine r_bipush (v := 13) dX1_part_38 (by decide) ?_
        refine r_ic_lt 53 dX1_part_40 (by decide) (fun c40 => ?_) (fun c40 => ?_)
        · refine r_iconst (v := 0) dX1_part_53 (by decide) ?_
          refine r_istore_n2 dX1_part_54 rfl ?_
          refine r_iload_n dX1_part_55 rfl ?_
          refine r_bipush (v := 36) dX1_part_56 (by decide) ?_
          refine r_ic_eq 67 dX1_part_58 (by decide) (fun c58 => ?_) (fun c58 => ?_)
          · exact absurd c58 y2
          · refine r_iload_n dX1_part_61 rfl ?_
            refine r_if_ne 67 dX1_part_62 (by decide) (fun c62 => ?_) (fun c62 => ?_)
            · exact absurd c62 (by decide)
            · refine r_iconst (v := 1) dX1_part_65 (by decide) ?_
              exact r_iret dX1_part_66 rfl rfl rfl rfl
        · refine r_iload_n dX1_part_43 rfl ?_
          refine r_bipush (v := 19) dX1_part_44 (by decide) ?_
          refine r_ic_gt 53 dX1_part_46 (by decide) (fun c46 => ?_) (fun c46 => ?_)
          · refine r_iconst (v := 0) dX1_part_53 (by decide) ?_
            refine r_istore_n2 dX1_part_54 rfl ?_
            refine r_iload_n dX1_part_55 rfl ?_
            refine r_bipush (v := 36) dX1_part_56 (by decide) ?_
            refine r_ic_eq 67 dX1_part_58 (by decide) (fun c58 => ?_) (fun c58 => ?_)
            · exact absurd c58 y2
            · refine r_iload_n dX1_part_61 rfl ?_
              refine r_if_ne 67 dX1_part_62 (by decide) (fun c62 => ?_) (fun c62 => ?_)
              · exact absurd c62 (by decide)
              · refine r_iconst (v := 1) dX1_part_65 (by decide) ?_
                exact r_iret dX1_part_66 rfl rfl rfl rfl
          · exact absurd y1 c46
    · intro E ex I J P n hn hP
      refine r_aload_n dX11_leafRead_86 rfl ?_
      refine r_cV0i dX11_leafRead_87 vlX11_356 sh_347 (Nat.le_of_ble_eq_true rfl) (nm_r_f y3 E ex I J P n (by omega) hP) ?_
      refine r_istore_n1 dX11_leafRead_90 rfl ?_
      refine r_iload_n dX11_leafRead_91 rfl ?_
      refine r_if_ge 109 dX11_leafRead_92 (by decide) (fun c92 => ?_) (fun c92 => ?_)
      · exact absurd c92 (by decide)
      · refine r_aload_n dX11_leafRead_95 rfl ?_
        refine r_getIv dX11_leafRead_96 flX11_211 sh_347 (by decide) rfl (uR_r (by decide) _) ?_
        refine r_iconst (v := 3) dX11_leafRead_99 (by decide) ?_
        refine r_ic_eq 109 dX11_leafRead_100 (by decide) (fun c100 => ?_) (fun c100 => ?_)
        · exact absurd c100 y4
        · refine r_aload_n dX11_leafRead_103 rfl ?_
          refine r_iconst (v := 1) dX11_leafRead_104 (by decide) ?_
          refine r_cV1i dX11_leafRead_105 vlX11_235 sh_347 (Nat.le_of_ble_eq_true rfl) (wrong_r 1 E ex I J P n (by omega) hP) ?_
          exact r_iret dX11_leafRead_108 rfl rfl rfl rfl
    · exact Qq.bad (Or.inl rfl) rfl rfl (agL.rf q K M)
  case inl =>
    by_cases hc : cnt = 64
    · subst hc
      refine JG.fin (r := some (.int 2)) (r' := some (.int 0)) (K' := K) (M' := fR M 2) ?_ ?_ ?_
      · intro E ex t I J P n hn ht hE hq
        refine r_iload_n dX1_part_37 rfl ?_
        refine r_bipush (v := 13) dX1_part_38 (by decide) ?_
        refine r_ic_lt 53 dX1_part_40 (by decide) (fun c40 => ?_) (fun c40 => ?_)
        · exact absurd c40 (by rw [y1]; exact Int32.not_lt.mpr (nI_le (a := 13) (b := 13 + m) (by omega) (by omega)))
        · refine r_iload_n dX1_part_43 rfl ?_
          refine r_bipush (v := 19) dX1_part_44 (by decide) ?_
          refine r_ic_gt 53 dX1_part_46 (by decide) (fun c46 => ?_) (fun c46 => ?_)
          · exact absurd c46 (by rw [y1]; exact Int32.not_lt.mpr (nI_le (a := 13 + m) (b := 19) (by omega) (by decide)))
          · refine r_iconst (v := 1) dX1_part_49 (by decide) ?_
            refine r_goto 54 dX1_part_50 (by decide) ?_
            refine r_istore_n2 dX1_part_54 rfl ?_
            refine r_iload_n dX1_part_55 rfl ?_
            refine r_bipush (v := 36) dX1_part_56 (by decide) ?_
            refine r_ic_eq 67 dX1_part_58 (by decide) (fun c58 => ?_) (fun c58 => ?_)
            · exact absurd c58 (by rw [y1]; intro e; have := (nI_eq (a := 13 + m) (b := 36) (by omega) (by decide)).mp e; omega)
            · refine r_iload_n dX1_part_61 rfl ?_
              refine r_if_ne 67 dX1_part_62 (by decide) (fun c62 => ?_) (fun c62 => ?_)
              · refine r_iload_n dX1_part_67 rfl ?_
                refine r_if_ne 84 dX1_part_68 (by decide) (fun c68 => ?_) (fun c68 => ?_)
                · refine r_aload_n dX1_part_84 rfl ?_
                  refine r_getR dX1_part_85 flX1_19 sh_29 (by decide) rfl (hq.2.2 rfl) ?_
                  refine r_getIv dX1_part_88 flX1_82 (tl_w _ ht) (by decide) rfl ((uC_tb (b := 507) (by decide) (by decide) _).trans e10) ?_
                  refine r_bipush (v := 64) dX1_part_91 (by decide) ?_
                  refine r_ic_lt 98 dX1_part_93 (by decide) (fun c93 => ?_) (fun c93 => ?_)
                  · exact absurd c93 (by decide)
                  · refine r_iconst (v := 2) dX1_part_96 (by decide) ?_
                    exact r_iret dX1_part_97 rfl rfl rfl rfl
                · exact absurd c68 (by decide)
              · exact absurd c62 (by decide)
      · intro E ex I J P n hn hP
        refine r_aload_n dX11_leafRead_86 rfl ?_
        refine r_cV0i dX11_leafRead_87 vlX11_356 sh_347 (Nat.le_of_ble_eq_true rfl) (nm_r_t y2 (by rw [y3]; exact Int32.not_lt.mpr (nI_le (a := 16) (b := 16 + m) (by omega) (by omega))) E ex I J P n (by omega) hP) ?_
        rw [show M 347 9 - 16 = nI m by rw [y3, show 16 + m = m + 16 by omega]; exact nI_m16 m]
        refine r_istore_n1 dX11_leafRead_90 rfl ?_
        refine r_iload_n dX11_leafRead_91 rfl ?_
        refine r_if_ge 109 dX11_leafRead_92 (by decide) (fun c92 => ?_) (fun c92 => ?_)
        · refine r_iload_n dX11_leafRead_109 rfl ?_
          refine r_if_ge 129 dX11_leafRead_110 (by decide) (fun c110 => ?_) (fun c110 => ?_)
          · refine r_aload_n dX11_leafRead_129 rfl ?_
            refine r_cV0i dX11_leafRead_130 vlX11_353 sh_347 (Nat.le_of_ble_eq_true rfl) (ic_f e11 E ex I J P n (by omega) hP) ?_
            refine r_if_ne 138 dX11_leafRead_133 (by decide) (fun c133 => ?_) (fun c133 => ?_)
            · exact absurd c133 (by decide)
            · refine r_iconst (v := 0) dX11_leafRead_136 (by decide) ?_
              exact r_iret dX11_leafRead_137 rfl rfl rfl rfl
          · exact absurd (nI_pos' (by omega)) c110
        · exact absurd (nI_pos' (by omega)) c92
      · exact Qq.bad (Or.inr rfl) rfl rfl (agL.rf q K M)
    have hK : ∀ a k, ¬ ((a = 507 ∧ (k = 5 ∨ k = 6)) ∨ (a = 508 ∧ k = q) ∨ (a = 29 ∧ k = 4)) → (xu (xu (xu (xu K 507 5 (nI (cnt + 1))) 508 q (10000 + K 28 4)) 507 6 (nI (q + 1))) 29 4 0) a k = K a k := fun a k z => ((xu_ne (by omega)).trans ((xu_ne (by omega)).trans ((xu_ne (by omega)).trans (xu_ne (by omega)))))
    have hM : ∀ a k, ¬ ((a = 347 ∧ (k = 47 ∨ k = 45 ∨ k = 19 ∨ k = 48)) ∨ ((369 ≤ a ∧ a ≤ 371) ∧ k = 64 + q) ∨ (a = 373 ∧ k = h)) → (xu (xu (xu (xu (xu (xu (xu (xu M 347 47 (nI (cnt + 1))) 369 (64 + q) 1) 370 (64 + q) (nI m)) 371 (64 + q) 0) 373 h (nI q)) 347 45 (nI (h + 1))) 347 19 (nI (q + 1))) 347 48 0) a k = M a k := fun a k z => ((xu_ne (by omega)).trans ((xu_ne (by omega)).trans ((xu_ne (by omega)).trans ((xu_ne (by omega)).trans ((xu_ne (by omega)).trans ((xu_ne (by omega)).trans ((xu_ne (by omega)).trans (xu_ne (by omega)))))))))
    have t1 : jT s i p (xu (xu (xu (xu K 507 5 (nI (cnt + 1))) 508 q (10000 + K 28 4)) 507 6 (nI (q + 1))) 29 4 0) (xu (xu (xu (xu (xu (xu (xu (xu M 347 47 (nI (cnt + 1))) 369 (64 + q) 1) 370 (64 + q) (nI m)) 371 (64 + q) 0) 373 h (nI q)) 347 45 (nI (h + 1))) 347 19 (nI (q + 1))) 347 48 0) := gt.c (fun a k z => hK a k (by omega)) (fun a k z => hM a k (by omega))
    obtain ⟨i1, p1, K1, M1, a1, a2, a3, a4, a5⟩ := adv_R t1
    have r1 : jR s0 (q + 1) (cnt + 1) n a (h + 1) (q :: hs) 0 (xu (xu (xu (xu K 507 5 (nI (cnt + 1))) 508 q (10000 + K 28 4)) 507 6 (nI (q + 1))) 29 4 0) (xu (xu (xu (xu (xu (xu (xu (xu M 347 47 (nI (cnt + 1))) 369 (64 + q) 1) 370 (64 + q) (nI m)) 371 (64 + q) 0) 373 h (nI q)) 347 45 (nI (h + 1))) 347 19 (nI (q + 1))) 347 48 0) := z.leaf (by omega) ((xu_ne (by omega)).trans ((xu_ne (by omega)).trans ((xu_ne (by omega)).trans (xu_s _ _ _ _)))) ((xu_ne (by omega)).trans ((xu_ne (by omega)).trans ((xu_ne (by omega)).trans ((xu_ne (by omega)).trans ((xu_ne (by omega)).trans ((xu_ne (by omega)).trans ((xu_ne (by omega)).trans (xu_s _ _ _ _)))))))) ((xu_ne (by omega)).trans (xu_s _ _ _ _)) ((xu_ne (by omega)).trans (xu_s _ _ _ _)) ((xu_ne (by omega)).trans ((xu_ne (by omega)).trans (xu_s _ _ _ _))) ((xu_ne (by omega)).trans ((xu_ne (by omega)).trans ((xu_ne (by omega)).trans (xu_s _ _ _ _)))) (xu_s _ _ _ _) (xu_s _ _ _ _) (Or.inr ⟨m, y0, ((xu_ne (by omega)).trans ((xu_ne (by omega)).trans (xu_s _ _ _ _))).trans (by rw [y1]; exact (nI_add 10000 (13 + m)).trans (congrArg nI (by omega))), ((xu_ne (by omega)).trans ((xu_ne (by omega)).trans ((xu_ne (by omega)).trans ((xu_ne (by omega)).trans ((xu_ne (by omega)).trans ((xu_ne (by omega)).trans (xu_s _ _ _ _))))))), ((xu_ne (by omega)).trans ((xu_ne (by omega)).trans ((xu_ne (by omega)).trans ((xu_ne (by omega)).trans ((xu_ne (by omega)).trans (xu_s _ _ _ _))))))⟩) (fun a k z => hK a k (by omega)) (fun a k z => hM a k (by omega))
    refine JG.fin (r := some (.int 0)) (r' := some (.int 1)) (K' := xu (xu (xu (xu K 507 5 (nI (cnt + 1))) 508 q (10000 + K 28 4)) 507 6 (nI (q + 1))) 29 4 0) (M' := M1) ?_ ?_ ?_
    · intro E ex t I J P n hn ht hE hq
      refine r_iload_n dX1_part_37 rfl ?_
      refine r_bipush (v := 13) dX1_part_38 (by decide) ?_
      refine r_ic_lt 53 dX1_part_40 (by decide) (fun c40 => ?_) (fun c40 => ?_)
      · exact absurd c40 (by rw [y1]; exact Int32.not_lt.mpr (nI_le (a := 13) (b := 13 + m) (by omega) (by omega)))
      · refine r_iload_n dX1_part_43 rfl ?_
        refine r_bipush (v := 19) dX1_part_44 (by decide) ?_
        refine r_ic_gt 53 dX1_part_46 (by decide) (fun c46 => ?_) (fun c46 => ?_)
        · exact absurd c46 (by rw [y1]; exact Int32.not_lt.mpr (nI_le (a := 13 + m) (b := 19) (by omega) (by decide)))
        · refine r_iconst (v := 1) dX1_part_49 (by decide) ?_
          refine r_goto 54 dX1_part_50 (by decide) ?_
          refine r_istore_n2 dX1_part_54 rfl ?_
          refine r_iload_n dX1_part_55 rfl ?_
          refine r_bipush (v := 36) dX1_part_56 (by decide) ?_
          refine r_ic_eq 67 dX1_part_58 (by decide) (fun c58 => ?_) (fun c58 => ?_)
          · exact absurd c58 (by rw [y1]; intro e; have := (nI_eq (a := 13 + m) (b := 36) (by omega) (by decide)).mp e; omega)
          · refine r_iload_n dX1_part_61 rfl ?_
            refine r_if_ne 67 dX1_part_62 (by decide) (fun c62 => ?_) (fun c62 => ?_)
            · refine r_iload_n dX1_part_67 rfl ?_
              refine r_if_ne 84 dX1_part_68 (by decide) (fun c68 => ?_) (fun c68 => ?_)
              · refine r_aload_n dX1_part_84 rfl ?_
                refine r_getR dX1_part_85 flX1_19 sh_29 (by decide) rfl (hq.2.2 rfl) ?_
                refine r_getIv dX1_part_88 flX1_82 (tl_w _ ht) (by decide) rfl ((uC_tb (b := 507) (by decide) (by decide) _).trans e10) ?_
                refine r_bipush (v := 64) dX1_part_91 (by decide) ?_
                refine r_ic_lt 98 dX1_part_93 (by decide) (fun c93 => ?_) (fun c93 => ?_)
                · refine r_aload_n dX1_part_98 rfl ?_
                  refine r_getR dX1_part_99 flX1_19 sh_29 (by decide) rfl (hq.2.2 rfl) ?_
                  refine r_dup dX1_part_102 rfl ?_
                  refine r_getIv dX1_part_103 flX1_82 (tl_w _ ht) (by decide) rfl ((uC_tb (b := 507) (by decide) (by decide) _).trans e10) ?_
                  refine r_iconst (v := 1) dX1_part_106 (by decide) ?_
                  refine r_iadd dX1_part_107 ?_
                  rw [nI_1]
                  refine r_putIv dX1_part_108 flX1_82 ⟨_, _, _, rfl, Or.inl rfl⟩ (tl_w _ ht) (by decide) rfl rfl rfl (uC_xb (b := 507) (by decide) (by decide) _ _ ht) ?_
                  refine r_aload_n dX1_part_111 rfl ?_
                  refine r_getR dX1_part_112 flX1_19 sh_29 (by decide) rfl (hq.2.2 rfl) ?_
                  refine r_iload_n dX1_part_115 rfl ?_
                  refine r_if_eq 127 dX1_part_116 (by decide) (fun c116 => ?_) (fun c116 => ?_)
                  · exact absurd c116 (by decide)
                  · refine r_sipush (v := 10000) dX1_part_119 (by decide) ?_
                    refine r_iload_n dX1_part_122 rfl ?_
                    refine r_iadd dX1_part_123 ?_
                    refine r_goto 134 dX1_part_124 (by decide) ?_
                    refine r_cV1v dX1_part_134 vlX1_85 (tl_w _ ht) (Nat.le_of_ble_eq_true rfl) (put_c ((xu_ne (by omega)).trans e8) (by omega) _ E ex t I J P n (by omega) ht hE hq) ?_
                    refine r_aload_n dX1_part_137 rfl ?_
                    refine r_iconst (v := 0) dX1_part_138 (by decide) ?_
                    refine r_putIv dX1_part_139 flX1_30 ⟨_, _, _, rfl, Or.inl rfl⟩ sh_29 (by decide) rfl rfl rfl (uC_xc ht (by decide) _ _) ?_
                    refine r_iconst (v := 0) dX1_part_142 (by decide) ?_
                    exact r_iret dX1_part_143 rfl rfl rfl rfl
                · exact absurd (nI_lt (a := cnt) (b := 64) (by omega) (by decide)) c93
              · exact absurd c68 (by decide)
            · exact absurd c62 (by decide)
    · intro E ex I J P n hn hP
      refine r_aload_n dX11_leafRead_86 rfl ?_
      refine r_cV0i dX11_leafRead_87 vlX11_356 sh_347 (Nat.le_of_ble_eq_true rfl) (nm_r_t y2 (by rw [y3]; exact Int32.not_lt.mpr (nI_le (a := 16) (b := 16 + m) (by omega) (by omega))) E ex I J P n (by omega) hP) ?_
      rw [show M 347 9 - 16 = nI m by rw [y3, show 16 + m = m + 16 by omega]; exact nI_m16 m]
      refine r_istore_n1 dX11_leafRead_90 rfl ?_
      refine r_iload_n dX11_leafRead_91 rfl ?_
      refine r_if_ge 109 dX11_leafRead_92 (by decide) (fun c92 => ?_) (fun c92 => ?_)
      · refine r_iload_n dX11_leafRead_109 rfl ?_
        refine r_if_ge 129 dX11_leafRead_110 (by decide) (fun c110 => ?_) (fun c110 => ?_)
        · refine r_aload_n dX11_leafRead_129 rfl ?_
          refine r_cV0i dX11_leafRead_130 vlX11_353 sh_347 (Nat.le_of_ble_eq_true rfl) (ic_t e11 (by omega) E ex I J P n (by omega) hP) ?_
          refine r_if_ne 138 dX11_leafRead_133 (by decide) (fun c133 => ?_) (fun c133 => ?_)
          · refine r_aload_n dX11_leafRead_138 rfl ?_
            refine r_iload_n dX11_leafRead_139 rfl ?_
            refine r_if_lt 147 dX11_leafRead_140 (by decide) (fun c140 => ?_) (fun c140 => ?_)
            · exact absurd c140 (nI_pos (by omega))
            · refine r_iconst (v := 1) dX11_leafRead_143 (by decide) ?_
              refine r_goto 148 dX11_leafRead_144 (by decide) ?_
              refine r_iload_n dX11_leafRead_148 rfl ?_
              refine r_if_lt 156 dX11_leafRead_149 (by decide) (fun c149 => ?_) (fun c149 => ?_)
              · exact absurd c149 (nI_pos (by omega))
              · refine r_iload_n dX11_leafRead_152 rfl ?_
                refine r_goto 160 dX11_leafRead_153 (by decide) ?_
                refine r_iconst (v := 0) dX11_leafRead_160 (by decide) ?_
                refine r_cV3v dX11_leafRead_161 vlX11_338 sh_347 (Nat.le_of_ble_eq_true rfl) (gr_r ((xu_ne (by omega)).trans e9) ((xu_ne (by omega)).trans e12) (by omega) (by omega) _ _ _ E ex I J P n (by omega) hP) ?_
                refine r_aload_n dX11_leafRead_164 rfl ?_
                refine r_iconst (v := 0) dX11_leafRead_165 (by decide) ?_
                refine r_putIv dX11_leafRead_166 flX11_359 ⟨_, _, _, rfl, Or.inl rfl⟩ sh_347 (by decide) rfl rfl rfl (uR_x (by decide) _ _) ?_
                refine r_aload_n dX11_leafRead_169 rfl ?_
                refine r_cV0v dX11_leafRead_170 vlX11_245 sh_347 (Nat.le_of_ble_eq_true rfl) (a5 E ex I J P n (by omega) hP) ?_
                refine r_iconst (v := 1) dX11_leafRead_173 (by decide) ?_
                exact r_iret dX11_leafRead_174 rfl rfl rfl rfl
          · exact absurd c133 (by decide)
        · exact absurd (nI_pos' (by omega)) c110
      · exact absurd (nI_pos' (by omega)) c92
    · exact Qq.good a4 (gt.2.2.2.1 (by rw [y1]; intro e; have := (nI_eq (a := 13 + m) (b := 38) (by omega) (by decide)).mp e; omega)) a1 a2 a3 (by omega) r1 (Or.inl rfl) ⟨fun a k z => hK a k (by omega), fun a k z => hM a k (by omega)⟩ (hM _ _ (by omega)) (hM _ _ (by omega))
  rcases y3.big with ⟨x, x2, x3, x4⟩ | ⟨w1, w2⟩
  case inr =>
    refine JG.fin (r := some (.int 2)) (r' := some (.int 0)) (K' := K) (M' := fR M 2) ?_ ?_ ?_
    · intro E ex t I J P n hn ht hE hq
      refine r_iload_n dX1_part_37 rfl ?_
      refine r_bipush (v := 13) dX1_part_38 (by decide) ?_
      refine r_ic_lt 53 dX1_part_40 (by decide) (fun c40 => ?_) (fun c40 => ?_)
      · exact absurd (y1 ▸ c40) (by decide)
      · refine r_iload_n dX1_part_43 rfl ?_
        refine r_bipush (v := 19) dX1_part_44 (by decide) ?_
        refine r_ic_gt 53 dX1_part_46 (by decide) (fun c46 => ?_) (fun c46 => ?_)
        · refine r_iconst (v := 0) dX1_part_53 (by decide) ?_
          refine r_istore_n2 dX1_part_54 rfl ?_
          refine r_iload_n dX1_part_55 rfl ?_
          refine r_bipush (v := 36) dX1_part_56 (by decide) ?_
          refine r_ic_eq 67 dX1_part_58 (by decide) (fun c58 => ?_) (fun c58 => ?_)
          · refine r_iload_n dX1_part_67 rfl ?_
            refine r_if_ne 84 dX1_part_68 (by decide) (fun c68 => ?_) (fun c68 => ?_)
            · exact absurd c68 (by decide)
            · refine r_aload_n dX1_part_71 rfl ?_
              refine r_getR dX1_part_72 flX1_15 sh_29 (by decide) rfl (pf_29_0 hq.1) ?_
              refine r_getIv dX1_part_75 flX1_79 sh_28 (by decide) rfl (uC_c ht (by decide) _) ?_
              refine r_sipush (v := 10000) dX1_part_78 (by decide) ?_
              refine r_ic_ge 96 dX1_part_81 (by decide) (fun c81 => ?_) (fun c81 => ?_)
              · refine r_iconst (v := 2) dX1_part_96 (by decide) ?_
                exact r_iret dX1_part_97 rfl rfl rfl rfl
              · exact absurd (Int32.not_lt.mp w1) c81
          · exact absurd y1 c58
        · exact absurd (show (19 : Int32) < K 28 4 by rw [y1]; decide) c46
    · intro E ex I J P n hn hP
      refine r_aload_n dX11_leafRead_86 rfl ?_
      refine r_cV0i dX11_leafRead_87 vlX11_356 sh_347 (Nat.le_of_ble_eq_true rfl) (nm_r_f (Or.inl (by rw [y2]; decide)) E ex I J P n (by omega) hP) ?_
      refine r_istore_n1 dX11_leafRead_90 rfl ?_
      refine r_iload_n dX11_leafRead_91 rfl ?_
      refine r_if_ge 109 dX11_leafRead_92 (by decide) (fun c92 => ?_) (fun c92 => ?_)
      · exact absurd c92 (by decide)
      · refine r_aload_n dX11_leafRead_95 rfl ?_
        refine r_getIv dX11_leafRead_96 flX11_211 sh_347 (by decide) rfl (uR_r (by decide) _) ?_
        refine r_iconst (v := 3) dX11_leafRead_99 (by decide) ?_
        refine r_ic_eq 109 dX11_leafRead_100 (by decide) (fun c100 => ?_) (fun c100 => ?_)
        · refine r_iload_n dX11_leafRead_109 rfl ?_
          refine r_if_ge 129 dX11_leafRead_110 (by decide) (fun c110 => ?_) (fun c110 => ?_)
          · exact absurd c110 (by decide)
          · refine r_aload_n dX11_leafRead_113 rfl ?_
            refine r_getIv dX11_leafRead_114 flX11_222 sh_347 (by decide) rfl (uR_r (by decide) _) ?_
            refine r_sipush (v := 9999) dX11_leafRead_117 (by decide) ?_
            refine r_ic_le 129 dX11_leafRead_120 (by decide) (fun c120 => ?_) (fun c120 => ?_)
            · exact absurd c120 w2
            · refine r_aload_n dX11_leafRead_123 rfl ?_
              refine r_iconst (v := 2) dX11_leafRead_124 (by decide) ?_
              refine r_cV1i dX11_leafRead_125 vlX11_235 sh_347 (Nat.le_of_ble_eq_true rfl) (wrong_r 2 E ex I J P n (by omega) hP) ?_
              exact r_iret dX11_leafRead_128 rfl rfl rfl rfl
        · exact absurd y2 c100
    · exact Qq.bad (Or.inr rfl) rfl rfl (agL.rf q K M)
  have w1 : K 28 5 < 10000 := by rw [x3]; exact nI_lt (a := x) (b := 10000) (by omega) (by decide)
  have w2 : M 347 9 ≤ 9999 := by rw [x4]; exact nI_le (a := x) (b := 9999) (by omega) (by decide)
  by_cases hc : cnt = 64
  · subst hc
    refine JG.fin (r := some (.int 2)) (r' := some (.int 0)) (K' := K) (M' := fR M 2) ?_ ?_ ?_
    · intro E ex t I J P n hn ht hE hq
      refine r_iload_n dX1_part_37 rfl ?_
      refine r_bipush (v := 13) dX1_part_38 (by decide) ?_
      refine r_ic_lt 53 dX1_part_40 (by decide) (fun c40 => ?_) (fun c40 => ?_)
      · exact absurd (y1 ▸ c40) (by decide)
      · refine r_iload_n dX1_part_43 rfl ?_
        refine r_bipush (v := 19) dX1_part_44 (by decide) ?_
        refine r_ic_gt 53 dX1_part_46 (by decide) (fun c46 => ?_) (fun c46 => ?_)
        · refine r_iconst (v := 0) dX1_part_53 (by decide) ?_
          refine r_istore_n2 dX1_part_54 rfl ?_
          refine r_iload_n dX1_part_55 rfl ?_
          refine r_bipush (v := 36) dX1_part_56 (by decide) ?_
          refine r_ic_eq 67 dX1_part_58 (by decide) (fun c58 => ?_) (fun c58 => ?_)
          · refine r_iload_n dX1_part_67 rfl ?_
            refine r_if_ne 84 dX1_part_68 (by decide) (fun c68 => ?_) (fun c68 => ?_)
            · exact absurd c68 (by decide)
            · refine r_aload_n dX1_part_71 rfl ?_
              refine r_getR dX1_part_72 flX1_15 sh_29 (by decide) rfl (pf_29_0 hq.1) ?_
              refine r_getIv dX1_part_75 flX1_79 sh_28 (by decide) rfl (uC_c ht (by decide) _) ?_
              refine r_sipush (v := 10000) dX1_part_78 (by decide) ?_
              refine r_ic_ge 96 dX1_part_81 (by decide) (fun c81 => ?_) (fun c81 => ?_)
              · exact absurd w1 (Int32.not_lt.mpr c81)
              · refine r_aload_n dX1_part_84 rfl ?_
                refine r_getR dX1_part_85 flX1_19 sh_29 (by decide) rfl (hq.2.2 rfl) ?_
                refine r_getIv dX1_part_88 flX1_82 (tl_w _ ht) (by decide) rfl ((uC_tb (b := 507) (by decide) (by decide) _).trans e10) ?_
                refine r_bipush (v := 64) dX1_part_91 (by decide) ?_
                refine r_ic_lt 98 dX1_part_93 (by decide) (fun c93 => ?_) (fun c93 => ?_)
                · exact absurd c93 (by decide)
                · refine r_iconst (v := 2) dX1_part_96 (by decide) ?_
                  exact r_iret dX1_part_97 rfl rfl rfl rfl
          · exact absurd y1 c58
        · exact absurd (show (19 : Int32) < K 28 4 by rw [y1]; decide) c46
    · intro E ex I J P n hn hP
      refine r_aload_n dX11_leafRead_86 rfl ?_
      refine r_cV0i dX11_leafRead_87 vlX11_356 sh_347 (Nat.le_of_ble_eq_true rfl) (nm_r_f (Or.inl (by rw [y2]; decide)) E ex I J P n (by omega) hP) ?_
      refine r_istore_n1 dX11_leafRead_90 rfl ?_
      refine r_iload_n dX11_leafRead_91 rfl ?_
      refine r_if_ge 109 dX11_leafRead_92 (by decide) (fun c92 => ?_) (fun c92 => ?_)
      · exact absurd c92 (by decide)
      · refine r_aload_n dX11_leafRead_95 rfl ?_
        refine r_getIv dX11_leafRead_96 flX11_211 sh_347 (by decide) rfl (uR_r (by decide) _) ?_
        refine r_iconst (v := 3) dX11_leafRead_99 (by decide) ?_
        refine r_ic_eq 109 dX11_leafRead_100 (by decide) (fun c100 => ?_) (fun c100 => ?_)
        · refine r_iload_n dX11_leafRead_109 rfl ?_
          refine r_if_ge 129 dX11_leafRead_110 (by decide) (fun c110 => ?_) (fun c110 => ?_)
          · exact absurd c110 (by decide)
          · refine r_aload_n dX11_leafRead_113 rfl ?_
            refine r_getIv dX11_leafRead_114 flX11_222 sh_347 (by decide) rfl (uR_r (by decide) _) ?_
            refine r_sipush (v := 9999) dX11_leafRead_117 (by decide) ?_
            refine r_ic_le 129 dX11_leafRead_120 (by decide) (fun c120 => ?_) (fun c120 => ?_)
            · refine r_aload_n dX11_leafRead_129 rfl ?_
              refine r_cV0i dX11_leafRead_130 vlX11_353 sh_347 (Nat.le_of_ble_eq_true rfl) (ic_f e11 E ex I J P n (by omega) hP) ?_
              refine r_if_ne 138 dX11_leafRead_133 (by decide) (fun c133 => ?_) (fun c133 => ?_)
              · exact absurd c133 (by decide)
              · refine r_iconst (v := 0) dX11_leafRead_136 (by decide) ?_
                exact r_iret dX11_leafRead_137 rfl rfl rfl rfl
            · exact absurd w2 c120
        · exact absurd y2 c100
    · exact Qq.bad (Or.inr rfl) rfl rfl (agL.rf q K M)
  have hK : ∀ a k, ¬ ((a = 507 ∧ (k = 5 ∨ k = 6)) ∨ (a = 508 ∧ k = q) ∨ (a = 29 ∧ k = 4)) → (xu (xu (xu (xu K 507 5 (nI (cnt + 1))) 508 q (K 28 5)) 507 6 (nI (q + 1))) 29 4 0) a k = K a k := fun a k z => ((xu_ne (by omega)).trans ((xu_ne (by omega)).trans ((xu_ne (by omega)).trans (xu_ne (by omega)))))
  have hM : ∀ a k, ¬ ((a = 347 ∧ (k = 47 ∨ k = 45 ∨ k = 19 ∨ k = 48)) ∨ ((369 ≤ a ∧ a ≤ 371) ∧ k = 64 + q) ∨ (a = 373 ∧ k = h)) → (xu (xu (xu (xu (xu (xu (xu (xu M 347 47 (nI (cnt + 1))) 369 (64 + q) 0) 370 (64 + q) (M 347 9)) 371 (64 + q) 0) 373 h (nI q)) 347 45 (nI (h + 1))) 347 19 (nI (q + 1))) 347 48 0) a k = M a k := fun a k z => ((xu_ne (by omega)).trans ((xu_ne (by omega)).trans ((xu_ne (by omega)).trans ((xu_ne (by omega)).trans ((xu_ne (by omega)).trans ((xu_ne (by omega)).trans ((xu_ne (by omega)).trans (xu_ne (by omega)))))))))
  have t1 : jT s i p (xu (xu (xu (xu K 507 5 (nI (cnt + 1))) 508 q (K 28 5)) 507 6 (nI (q + 1))) 29 4 0) (xu (xu (xu (xu (xu (xu (xu (xu M 347 47 (nI (cnt + 1))) 369 (64 + q) 0) 370 (64 + q) (M 347 9)) 371 (64 + q) 0) 373 h (nI q)) 347 45 (nI (h + 1))) 347 19 (nI (q + 1))) 347 48 0) := gt.c (fun a k z => hK a k (by omega)) (fun a k z => hM a k (by omega))
  obtain ⟨i1, p1, K1, M1, a1, a2, a3, a4, a5⟩ := adv_R t1
  have r1 : jR s0 (q + 1) (cnt + 1) n a (h + 1) (q :: hs) 0 (xu (xu (xu (xu K 507 5 (nI (cnt + 1))) 508 q (K 28 5)) 507 6 (nI (q + 1))) 29 4 0) (xu (xu (xu (xu (xu (xu (xu (xu M 347 47 (nI (cnt + 1))) 369 (64 + q) 0) 370 (64 + q) (M 347 9)) 371 (64 + q) 0) 373 h (nI q)) 347 45 (nI (h + 1))) 347 19 (nI (q + 1))) 347 48 0) := z.leaf (by omega) ((xu_ne (by omega)).trans ((xu_ne (by omega)).trans ((xu_ne (by omega)).trans (xu_s _ _ _ _)))) ((xu_ne (by omega)).trans ((xu_ne (by omega)).trans ((xu_ne (by omega)).trans ((xu_ne (by omega)).trans ((xu_ne (by omega)).trans ((xu_ne (by omega)).trans ((xu_ne (by omega)).trans (xu_s _ _ _ _)))))))) ((xu_ne (by omega)).trans (xu_s _ _ _ _)) ((xu_ne (by omega)).trans (xu_s _ _ _ _)) ((xu_ne (by omega)).trans ((xu_ne (by omega)).trans (xu_s _ _ _ _))) ((xu_ne (by omega)).trans ((xu_ne (by omega)).trans ((xu_ne (by omega)).trans (xu_s _ _ _ _)))) (xu_s _ _ _ _) (xu_s _ _ _ _) (Or.inl ⟨x, x2, ((xu_ne (by omega)).trans ((xu_ne (by omega)).trans (xu_s _ _ _ _))).trans x3, ((xu_ne (by omega)).trans ((xu_ne (by omega)).trans ((xu_ne (by omega)).trans ((xu_ne (by omega)).trans ((xu_ne (by omega)).trans ((xu_ne (by omega)).trans (xu_s _ _ _ _))))))), ((xu_ne (by omega)).trans ((xu_ne (by omega)).trans ((xu_ne (by omega)).trans ((xu_ne (by omega)).trans ((xu_ne (by omega)).trans (xu_s _ _ _ _)))))).trans x4⟩) (fun a k z => hK a k (by omega)) (fun a k z => hM a k (by omega))
  refine JG.fin (r := some (.int 0)) (r' := some (.int 1)) (K' := xu (xu (xu (xu K 507 5 (nI (cnt + 1))) 508 q (K 28 5)) 507 6 (nI (q + 1))) 29 4 0) (M' := M1) ?_ ?_ ?_
  · intro E ex t I J P n hn ht hE hq
    refine r_iload_n dX1_part_37 rfl ?_
    refine r_bipush (v := 13) dX1_part_38 (by decide) ?_
    refine r_ic_lt 53 dX1_part_40 (by decide) (fun c40 => ?_) (fun c40 => ?_)
    · exact absurd (y1 ▸ c40) (by decide)
    · refine r_iload_n dX1_part_43 rfl ?_
      refine r_bipush (v := 19) dX1_part_44 (by decide) ?_
      refine r_ic_gt 53 dX1_part_46 (by decide) (fun c46 => ?_) (fun c46 => ?_)
      · refine r_iconst (v := 0) dX1_part_53 (by decide) ?_
        refine r_istore_n2 dX1_part_54 rfl ?_
        refine r_iload_n dX1_part_55 rfl ?_
        refine r_bipush (v := 36) dX1_part_56 (by decide) ?_
        refine r_ic_eq 67 dX1_part_58 (by decide) (fun c58 => ?_) (fun c58 => ?_)
        · refine r_iload_n dX1_part_67 rfl ?_
          refine r_if_ne 84 dX1_part_68 (by decide) (fun c68 => ?_) (fun c68 => ?_)
          · exact absurd c68 (by decide)
          · refine r_aload_n dX1_part_71 rfl ?_
            refine r_getR dX1_part_72 flX1_15 sh_29 (by decide) rfl (pf_29_0 hq.1) ?_
            refine r_getIv dX1_part_75 flX1_79 sh_28 (by decide) rfl (uC_c ht (by decide) _) ?_
            refine r_sipush (v := 10000) dX1_part_78 (by decide) ?_
            refine r_ic_ge 96 dX1_part_81 (by decide) (fun c81 => ?_) (fun c81 => ?_)
            · exact absurd w1 (Int32.not_lt.mpr c81)
            · refine r_aload_n dX1_part_84 rfl ?_
              refine r_getR dX1_part_85 flX1_19 sh_29 (by decide) rfl (hq.2.2 rfl) ?_
              refine r_getIv dX1_part_88 flX1_82 (tl_w _ ht) (by decide) rfl ((uC_tb (b := 507) (by decide) (by decide) _).trans e10) ?_
              refine r_bipush (v := 64) dX1_part_91 (by decide) ?_
              refine r_ic_lt 98 dX1_part_93 (by decide) (fun c93 => ?_) (fun c93 => ?_)
              · refine r_aload_n dX1_part_98 rfl ?_
                refine r_getR dX1_part_99 flX1_19 sh_29 (by decide) rfl (hq.2.2 rfl) ?_
                refine r_dup dX1_part_102 rfl ?_
                refine r_getIv dX1_part_103 flX1_82 (tl_w _ ht) (by decide) rfl ((uC_tb (b := 507) (by decide) (by decide) _).trans e10) ?_
                refine r_iconst (v := 1) dX1_part_106 (by decide) ?_
                refine r_iadd dX1_part_107 ?_
                rw [nI_1]
                refine r_putIv dX1_part_108 flX1_82 ⟨_, _, _, rfl, Or.inl rfl⟩ (tl_w _ ht) (by decide) rfl rfl rfl (uC_xb (b := 507) (by decide) (by decide) _ _ ht) ?_
                refine r_aload_n dX1_part_111 rfl ?_
                refine r_getR dX1_part_112 flX1_19 sh_29 (by decide) rfl (hq.2.2 rfl) ?_
                refine r_iload_n dX1_part_115 rfl ?_
                refine r_if_eq 127 dX1_part_116 (by decide) (fun c116 => ?_) (fun c116 => ?_)
                · refine r_aload_n dX1_part_127 rfl ?_
                  refine r_getR dX1_part_128 flX1_15 sh_29 (by decide) rfl (pf_29_0 hq.1) ?_
                  refine r_getIv dX1_part_131 flX1_79 sh_28 (by decide) rfl (uC_cv ht (by decide) (xu_ne (by omega))) ?_
                  refine r_cV1v dX1_part_134 vlX1_85 (tl_w _ ht) (Nat.le_of_ble_eq_true rfl) (put_c ((xu_ne (by omega)).trans e8) (by omega) _ E ex t I J P n (by omega) ht hE hq) ?_
                  refine r_aload_n dX1_part_137 rfl ?_
                  refine r_iconst (v := 0) dX1_part_138 (by decide) ?_
                  refine r_putIv dX1_part_139 flX1_30 ⟨_, _, _, rfl, Or.inl rfl⟩ sh_29 (by decide) rfl rfl rfl (uC_xc ht (by decide) _ _) ?_
                  refine r_iconst (v := 0) dX1_part_142 (by decide) ?_
                  exact r_iret dX1_part_143 rfl rfl rfl rfl
                · exact absurd c116 (by decide)
              · exact absurd (nI_lt (a := cnt) (b := 64) (by omega) (by decide)) c93
        · exact absurd y1 c58
      · exact absurd (show (19 : Int32) < K 28 4 by rw [y1]; decide) c46
  · intro E ex I J P n hn hP
    refine r_aload_n dX11_leafRead_86 rfl ?_
    refine r_cV0i dX11_leafRead_87 vlX11_356 sh_347 (Nat.le_of_ble_eq_true rfl) (nm_r_f (Or.inl (by rw [y2]; decide)) E ex I J P n (by omega) hP) ?_
    refine r_istore_n1 dX11_leafRead_90 rfl ?_
    refine r_iload_n dX11_leafRead_91 rfl ?_
    refine r_if_ge 109 dX11_leafRead_92 (by decide) (fun c92 => ?_) (fun c92 => ?_)
    · exact absurd c92 (by decide)
    · refine r_aload_n dX11_leafRead_95 rfl ?_
      refine r_getIv dX11_leafRead_96 flX11_211 sh_347 (by decide) rfl (uR_r (by decide) _) ?_
      refine r_iconst (v := 3) dX11_leafRead_99 (by decide) ?_
      refine r_ic_eq 109 dX11_leafRead_100 (by decide) (fun c100 => ?_) (fun c100 => ?_)
      · refine r_iload_n dX11_leafRead_109 rfl ?_
        refine r_if_ge 129 dX11_leafRead_110 (by decide) (fun c110 => ?_) (fun c110 => ?_)
        · exact absurd c110 (by decide)
        · refine r_aload_n dX11_leafRead_113 rfl ?_
          refine r_getIv dX11_leafRead_114 flX11_222 sh_347 (by decide) rfl (uR_r (by decide) _) ?_
          refine r_sipush (v := 9999) dX11_leafRead_117 (by decide) ?_
          refine r_ic_le 129 dX11_leafRead_120 (by decide) (fun c120 => ?_) (fun c120 => ?_)
          · refine r_aload_n dX11_leafRead_129 rfl ?_
            refine r_cV0i dX11_leafRead_130 vlX11_353 sh_347 (Nat.le_of_ble_eq_true rfl) (ic_t e11 (by omega) E ex I J P n (by omega) hP) ?_
            refine r_if_ne 138 dX11_leafRead_133 (by decide) (fun c133 => ?_) (fun c133 => ?_)
            · refine r_aload_n dX11_leafRead_138 rfl ?_
              refine r_iload_n dX11_leafRead_139 rfl ?_
              refine r_if_lt 147 dX11_leafRead_140 (by decide) (fun c140 => ?_) (fun c140 => ?_)
              · refine r_iconst (v := 0) dX11_leafRead_147 (by decide) ?_
                refine r_iload_n dX11_leafRead_148 rfl ?_
                refine r_if_lt 156 dX11_leafRead_149 (by decide) (fun c149 => ?_) (fun c149 => ?_)
                · refine r_aload_n dX11_leafRead_156 rfl ?_
                  refine r_getIv dX11_leafRead_157 flX11_222 sh_347 (by decide) rfl (uR_v (by decide) (xu_ne (by omega))) ?_
                  refine r_iconst (v := 0) dX11_leafRead_160 (by decide) ?_
                  refine r_cV3v dX11_leafRead_161 vlX11_338 sh_347 (Nat.le_of_ble_eq_true rfl) (gr_r ((xu_ne (by omega)).trans e9) ((xu_ne (by omega)).trans e12) (by omega) (by omega) _ _ _ E ex I J P n (by omega) hP) ?_
                  refine r_aload_n dX11_leafRead_164 rfl ?_
                  refine r_iconst (v := 0) dX11_leafRead_165 (by decide) ?_
                  refine r_putIv dX11_leafRead_166 flX11_359 ⟨_, _, _, rfl, Or.inl rfl⟩ sh_347 (by decide) rfl rfl rfl (uR_x (by decide) _ _) ?_
                  refine r_aload_n dX11_leafRead_169 rfl ?_
                  refine r_cV0v dX11_leafRead_170 vlX11_245 sh_347 (Nat.le_of_ble_eq_true rfl) (a5 E ex I J P n (by omega) hP) ?_
                  refine r_iconst (v := 1) dX11_leafRead_173 (by decide) ?_
                  exact r_iret dX11_leafRead_174 rfl rfl rfl rfl
                · exact absurd (by decide) c149
              · exact absurd (by decide) c140
            · exact absurd c133 (by decide)
          · exact absurd w2 c120
      · exact absurd y2 c100
  · exact Qq.good a4 (gt.2.2.2.1 (by rw [y1]; decide)) a1 a2 a3 (by omega) r1 (Or.inl rfl) ⟨fun a k z => hK a k (by omega), fun a k z => hM a k (by omega)⟩ (hM _ _ (by omega)) (hM _ _ (by omega))
