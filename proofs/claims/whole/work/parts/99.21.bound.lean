/-! laws on both sides: what waits is bound -/
theorem Hd_top {f : Nat → Int32} {x : Nat} {r : List Nat} (z : ∀ j, j < r.length + 1 → f j = nI ((x :: r).getD (r.length + 1 - 1 - j) 0)) : f r.length = nI x := by
  rw [z r.length (by omega), show r.length + 1 - 1 - r.length = 0 by omega]
  rfl
theorem Hd_tl {f : Nat → Int32} {x : Nat} {r : List Nat} (z : ∀ j, j < r.length + 1 → f j = nI ((x :: r).getD (r.length + 1 - 1 - j) 0)) : ∀ j, j < r.length → f j = nI (r.getD (r.length - 1 - j) 0) := by
  intro j hj
  rw [z j (by omega), show r.length + 1 - 1 - j = (r.length - 1 - j) + 1 by omega]
  rfl
theorem Hd_push {f g : Nat → Int32} {q : Nat} {r : List Nat} (z : ∀ j, j < r.length → f j = nI (r.getD (r.length - 1 - j) 0)) (h : ∀ j, j < r.length → g j = f j) (h2 : g r.length = nI q) : ∀ j, j < r.length + 1 → g j = nI ((q :: r).getD (r.length + 1 - 1 - j) 0) := by
  intro j hj
  by_cases e : j = r.length
  · subst e
    rw [h2, show r.length + 1 - 1 - r.length = 0 by omega]
    rfl
  · rw [h j (by omega), z j (by omega), show r.length + 1 - 1 - j = (r.length - 1 - j) + 1 by omega]
    rfl
theorem Ws_push {K M : Nat → Nat → Int32} {s0 q : Nat} {r : List Nat} (hq : s0 ≤ q) (g : (Lf (K 508 q) (M 369 (64 + q)) (M 370 (64 + q)) ∧ Ws K M s0 (q - s0) r) ∨ (K 508 q = nI 10022 ∧ M 369 (64 + q) = 2 ∧ ∃ a, M 370 (64 + q) = nI a ∧ Ws K M s0 (q - s0) (a :: r)) ∨ ∃ kc, wtB kc (M 369 (64 + q)) ∧ K 508 q = 10000 + kc ∧ ∃ a b, M 370 (64 + q) = nI a ∧ M 371 (64 + q) = nI b ∧ Ws K M s0 (q - s0) (b :: a :: r)) : Ws K M s0 (q + 1 - s0) (q :: r) := by
  rw [show q + 1 - s0 = (q - s0) + 1 by omega]
  refine ⟨r, by rw [show s0 + (q - s0) = q by omega], ?_⟩
  rw [show s0 + (q - s0) = q by omega]
  exact g
def agW (q : Nat) (K K' M M' : Nat → Nat → Int32) : Prop := (∀ a k, ¬ ((a = 29 ∧ k = 2) ∨ (a = 507 ∧ k = 6) ∨ (a = 508 ∧ q ≤ k)) → K' a k = K a k) ∧ ∀ a k, ¬ ((a = 347 ∧ (k = 19 ∨ k = 44 ∨ k = 45)) ∨ ((369 ≤ a ∧ a ≤ 371) ∧ 64 + q ≤ k) ∨ a = 373) → M' a k = M a k
theorem agW.rf (q : Nat) (K M : Nat → Nat → Int32) : agW q K K M M := ⟨fun _ _ _ => rfl, fun _ _ _ => rfl⟩
theorem agW.tr {q q1 : Nat} {K K1 K2 M M1 M2 : Nat → Nat → Int32} (h : agW q K K1 M M1) (g : agW q1 K1 K2 M1 M2) (hq : q ≤ q1) : agW q K K2 M M2 := ⟨fun a k z => (g.1 a k (by omega)).trans (h.1 a k z), fun a k z => (g.2 a k (by omega)).trans (h.2 a k z)⟩
def Qs (s0 q cnt a : Nat) (lv : Int32) (K M : Nat → Nat → Int32) : Option Value → (Nat → Nat → Int32) → Option Value → (Nat → Nat → Int32) → Prop := fun r K' r' M' => r = none ∧ r' = none ∧ ∃ n' q' h' hs', q ≤ q' ∧ jR s0 q' cnt n' a h' hs' 0 K' M' ∧ (n' = 0 ∨ ∃ m, n' = m + 1 ∧ cRk (K' 30 m) < lv) ∧ agW q K K' M M'
theorem Qs.up {s0 q q1 cnt a : Nat} {lv : Int32} {K K1 M M1 : Nat → Nat → Int32} (h : agW q K K1 M M1) (hq : q ≤ q1) {r r' : Option Value} {K' M' : Nat → Nat → Int32} (z : Qs s0 q1 cnt a lv K1 M1 r K' r' M') : Qs s0 q cnt a lv K M r K' r' M' := by
  obtain ⟨z1, z2, n', q', h', hs', z3, z4, z5, z6⟩ := z
  exact ⟨z1, z2, n', q', h', hs', by omega, z4, z5, h.tr z6 hq⟩
theorem stl_n {s0 q cnt a m x h : Nat} {r : List Nat} {K M : Nat → Nat → Int32} (z : jR s0 q cnt (m + 1) a h (x :: r) 0 K M) (h22 : K 30 m = 22) (w : ∃ c, Wt K M m a c ∧ h = c + 1) : jR s0 (q + 1) cnt m a (r.length + 1) (q :: r) 0 (xu (xu (xu K 29 2 (nI m)) 508 q (10000 + K 30 m)) 507 6 (nI (q + 1))) (xu (xu (xu (xu (xu (xu (xu (xu M 347 44 (nI m)) 347 45 (nI r.length)) 369 (64 + q) 2) 370 (64 + q) (nI x)) 371 (64 + q) (-1)) 373 r.length (nI q)) 347 45 (nI (r.length + 1))) 347 19 (nI (q + 1))) ∧ agW q K (xu (xu (xu K 29 2 (nI m)) 508 q (10000 + K 30 m)) 507 6 (nI (q + 1))) M (xu (xu (xu (xu (xu (xu (xu (xu M 347 44 (nI m)) 347 45 (nI r.length)) 369 (64 + q) 2) 370 (64 + q) (nI x)) 371 (64 + q) (-1)) 373 r.length (nI q)) 347 45 (nI (r.length + 1))) 347 19 (nI (q + 1))) := by
  obtain ⟨z1, z2, z3, z4, ⟨c, z5, z6⟩, e1, e2, e3, e4, e5, e6, e7, e8, e9, e10, e11, e12, e13, e14, e15, e16⟩ := z
  have hK : ∀ a k, ¬ ((a = 29 ∧ k = 2) ∨ (a = 507 ∧ k = 6) ∨ (a = 508 ∧ k = q)) → (xu (xu (xu K 29 2 (nI m)) 508 q (10000 + K 30 m)) 507 6 (nI (q + 1))) a k = K a k := fun a k z => ((xu_ne (by omega)).trans ((xu_ne (by omega)).trans (xu_ne (by omega))))
  have hM : ∀ a k, ¬ ((a = 347 ∧ (k = 19 ∨ k = 44 ∨ k = 45)) ∨ ((369 ≤ a ∧ a ≤ 371) ∧ k = 64 + q) ∨ (a = 373 ∧ k = r.length)) → (xu (xu (xu (xu (xu (xu (xu (xu M 347 44 (nI m)) 347 45 (nI r.length)) 369 (64 + q) 2) 370 (64 + q) (nI x)) 371 (64 + q) (-1)) 373 r.length (nI q)) 347 45 (nI (r.length + 1))) 347 19 (nI (q + 1))) a k = M a k := fun a k z => ((xu_ne (by omega)).trans ((xu_ne (by omega)).trans ((xu_ne (by omega)).trans ((xu_ne (by omega)).trans ((xu_ne (by omega)).trans ((xu_ne (by omega)).trans ((xu_ne (by omega)).trans (xu_ne (by omega)))))))))
  have k508 : (xu (xu (xu K 29 2 (nI m)) 508 q (10000 + K 30 m)) 507 6 (nI (q + 1))) 508 q = 10000 + K 30 m := (xu_ne (by omega)).trans (xu_s _ _ _ _)
  obtain ⟨c2, w1, w2⟩ := w
  have hle := w1.le
  have e14' : r.length + 1 = h := e14
  subst e14'
  refine ⟨⟨by omega, z2, z3, by omega, ⟨c2, w1.c (fun k hk => hK _ _ (by omega)) (fun k hk => hM _ _ (by omega)), by simpa using w2⟩, (xu_ne (by omega)).trans ((xu_ne (by omega)).trans (xu_s _ _ _ _)), ((xu_ne (by omega)).trans ((xu_ne (by omega)).trans ((xu_ne (by omega)).trans ((xu_ne (by omega)).trans ((xu_ne (by omega)).trans ((xu_ne (by omega)).trans ((xu_ne (by omega)).trans (xu_s _ _ _ _)))))))), (hK _ _ (by omega)).trans e3, (hM _ _ (by omega)).trans e4, (hK _ _ (by omega)).trans e5, (hM _ _ (by omega)).trans e6, ((hK _ _ (by omega)).trans e7).trans (hM _ _ (by omega)).symm, xu_s _ _ _ _, xu_s _ _ _ _, (hK _ _ (by omega)).trans e10, (hM _ _ (by omega)).trans e11, ((xu_ne (by omega)).trans (xu_s _ _ _ _)), by omega, rfl, ?_, ?_⟩, ⟨fun a k z => hK a k (by omega), fun a k z => hM a k (by omega)⟩⟩
  · refine Ws_push e13 (Or.inr (Or.inl ⟨?_, ?_, x, ?_, e15.c (fun k z1 z2 => hK _ _ (by omega)) (fun a k z0 z1 z2 => hM _ _ (by omega))⟩))
    · rw [k508, h22]; decide
    · exact ((xu_ne (by omega)).trans ((xu_ne (by omega)).trans ((xu_ne (by omega)).trans ((xu_ne (by omega)).trans ((xu_ne (by omega)).trans (xu_s _ _ _ _))))))
    · exact ((xu_ne (by omega)).trans ((xu_ne (by omega)).trans ((xu_ne (by omega)).trans ((xu_ne (by omega)).trans (xu_s _ _ _ _)))))
  · exact Hd_push (Hd_tl e16) (fun j hj => hM _ _ (by omega)) ((xu_ne (by omega)).trans ((xu_ne (by omega)).trans (xu_s _ _ _ _)))
theorem stl_b {s0 q cnt a m x y h : Nat} {kr : Int32} {r : List Nat} {K M : Nat → Nat → Int32} (z : jR s0 q cnt (m + 1) a h (y :: x :: r) 0 K M) (hb : wtB (K 30 m) kr) (w : ∃ c, Wt K M m a c ∧ h = c + 2) : jR s0 (q + 1) cnt m a (r.length + 1) (q :: r) 0 (xu (xu (xu K 29 2 (nI m)) 508 q (10000 + K 30 m)) 507 6 (nI (q + 1))) (xu (xu (xu (xu (xu (xu (xu (xu (xu M 347 44 (nI m)) 347 45 (nI (r.length + 1))) 347 45 (nI r.length)) 369 (64 + q) kr) 370 (64 + q) (nI x)) 371 (64 + q) (nI y)) 373 r.length (nI q)) 347 45 (nI (r.length + 1))) 347 19 (nI (q + 1))) ∧ agW q K (xu (xu (xu K 29 2 (nI m)) 508 q (10000 + K 30 m)) 507 6 (nI (q + 1))) M (xu (xu (xu (xu (xu (xu (xu (xu (xu M 347 44 (nI m)) 347 45 (nI (r.length + 1))) 347 45 (nI r.length)) 369 (64 + q) kr) 370 (64 + q) (nI x)) 371 (64 + q) (nI y)) 373 r.length (nI q)) 347 45 (nI (r.length + 1))) 347 19 (nI (q + 1))) := by
  obtain ⟨z1, z2, z3, z4, ⟨c, z5, z6⟩, e1, e2, e3, e4, e5, e6, e7, e8, e9, e10, e11, e12, e13, e14, e15, e16⟩ := z
  have hK : ∀ a k, ¬ ((a = 29 ∧ k = 2) ∨ (a = 507 ∧ k = 6) ∨ (a = 508 ∧ k = q)) → (xu (xu (xu K 29 2 (nI m)) 508 q (10000 + K 30 m)) 507 6 (nI (q + 1))) a k = K a k := fun a k z => ((xu_ne (by omega)).trans ((xu_ne (by omega)).trans (xu_ne (by omega))))
  have hM : ∀ a k, ¬ ((a = 347 ∧ (k = 19 ∨ k = 44 ∨ k = 45)) ∨ ((369 ≤ a ∧ a ≤ 371) ∧ k = 64 + q) ∨ (a = 373 ∧ k = r.length)) → (xu (xu (xu (xu (xu (xu (xu (xu (xu M 347 44 (nI m)) 347 45 (nI (r.length + 1))) 347 45 (nI r.length)) 369 (64 + q) kr) 370 (64 + q) (nI x)) 371 (64 + q) (nI y)) 373 r.length (nI q)) 347 45 (nI (r.length + 1))) 347 19 (nI (q + 1))) a k = M a k := fun a k z => ((xu_ne (by omega)).trans ((xu_ne (by omega)).trans ((xu_ne (by omega)).trans ((xu_ne (by omega)).trans ((xu_ne (by omega)).trans ((xu_ne (by omega)).trans ((xu_ne (by omega)).trans ((xu_ne (by omega)).trans (xu_ne (by omega))))))))))
  have k508 : (xu (xu (xu K 29 2 (nI m)) 508 q (10000 + K 30 m)) 507 6 (nI (q + 1))) 508 q = 10000 + K 30 m := (xu_ne (by omega)).trans (xu_s _ _ _ _)
  obtain ⟨c2, w1, w2⟩ := w
  have hle := w1.le
  have e14' : r.length + 1 + 1 = h := e14
  subst e14'
  refine ⟨⟨by omega, z2, z3, by omega, ⟨c2, w1.c (fun k hk => hK _ _ (by omega)) (fun k hk => hM _ _ (by omega)), by simp; omega⟩, (xu_ne (by omega)).trans ((xu_ne (by omega)).trans (xu_s _ _ _ _)), ((xu_ne (by omega)).trans ((xu_ne (by omega)).trans ((xu_ne (by omega)).trans ((xu_ne (by omega)).trans ((xu_ne (by omega)).trans ((xu_ne (by omega)).trans ((xu_ne (by omega)).trans ((xu_ne (by omega)).trans (xu_s _ _ _ _))))))))), (hK _ _ (by omega)).trans e3, (hM _ _ (by omega)).trans e4, (hK _ _ (by omega)).trans e5, (hM _ _ (by omega)).trans e6, ((hK _ _ (by omega)).trans e7).trans (hM _ _ (by omega)).symm, xu_s _ _ _ _, xu_s _ _ _ _, (hK _ _ (by omega)).trans e10, (hM _ _ (by omega)).trans e11, ((xu_ne (by omega)).trans (xu_s _ _ _ _)), by omega, rfl, ?_, ?_⟩, ⟨fun a k z => hK a k (by omega), fun a k z => hM a k (by omega)⟩⟩
  · refine Ws_push e13 (Or.inr (Or.inr ⟨K 30 m, ?_, k508, x, y, ?_, ?_, e15.c (fun k z1 z2 => hK _ _ (by omega)) (fun a k z0 z1 z2 => hM _ _ (by omega))⟩))
    · rw [show (xu (xu (xu (xu (xu (xu (xu (xu (xu M 347 44 (nI m)) 347 45 (nI (r.length + 1))) 347 45 (nI r.length)) 369 (64 + q) kr) 370 (64 + q) (nI x)) 371 (64 + q) (nI y)) 373 r.length (nI q)) 347 45 (nI (r.length + 1))) 347 19 (nI (q + 1))) 369 (64 + q) = kr from ((xu_ne (by omega)).trans ((xu_ne (by omega)).trans ((xu_ne (by omega)).trans ((xu_ne (by omega)).trans ((xu_ne (by omega)).trans (xu_s _ _ _ _))))))]; exact hb
    · exact ((xu_ne (by omega)).trans ((xu_ne (by omega)).trans ((xu_ne (by omega)).trans ((xu_ne (by omega)).trans (xu_s _ _ _ _)))))
    · exact ((xu_ne (by omega)).trans ((xu_ne (by omega)).trans ((xu_ne (by omega)).trans (xu_s _ _ _ _))))
  · exact Hd_push (Hd_tl (x := x) (r := r) (Hd_tl (r := x :: r) e16)) (fun j hj => hM _ _ (by omega)) ((xu_ne (by omega)).trans ((xu_ne (by omega)).trans (xu_s _ _ _ _)))
set_option maxHeartbeats 8000000 in
theorem stl_J {s0 cnt a : Nat} {lv : Int32} (hlv : 0 < lv) : ∀ n i0 q h hs K M (x2 x3 x4 : Option Value), i0 + n ≤ 72 → jR s0 q cnt n a h hs 0 K M → JG (cAt true 2 yX1_settle cX1_settle none 2 [some (.ref 29), some (.int lv), some (.int (nI i0))] [] K) (rAt 1 yX11_bind cX11_bind none 0 [some (.ref 347), some (.int lv), x2, x3, x4] [] M) (Qs s0 q cnt a lv K M) := by
  intro n
  induction n with
  | zero =>
    intro i0 q h hs K M x2 x3 x4 hi z
    have z' := z
    obtain ⟨z1, z2, z3, z4, ⟨c, z5, z6⟩, e1, e2, -⟩ := z'
    refine JG.fin (r := none) (r' := none) (K' := K) (M' := M) ?_ ?_ ⟨rfl, rfl, 0, q, h, hs, Nat.le_refl _, z, Or.inl rfl, agW.rf q K M⟩
    · intro E ex t I J P n hn ht hE hq
      refine r_iload_n dX1_settle_2 rfl ?_
      refine r_bipush (v := 72) dX1_settle_3 (by decide) ?_
      refine r_ic_ge 52 dX1_settle_5 (by decide) (fun c5 => ?_) (fun c5 => ?_)
      · exact r_vret dX1_settle_52 rfl rfl rfl
      · refine r_aload_n dX1_settle_8 rfl ?_
        refine r_cV0i dX1_settle_9 vlX1_101 sh_29 (Nat.le_of_ble_eq_true rfl) (lr_0 e1 E ex t I J P n (by omega) ht hE hq) ?_
        refine r_iload_n dX1_settle_12 rfl ?_
        refine r_ic_lt 52 dX1_settle_13 (by decide) (fun c13 => ?_) (fun c13 => ?_)
        · exact r_vret dX1_settle_52 rfl rfl rfl
        · exact absurd hlv c13
    · intro E ex I J P n hn hP
      refine r_aload_n dX11_bind_0 rfl ?_
      refine r_getIv dX11_bind_1 flX11_327 sh_347 (by decide) rfl (uR_v (by decide) e2) ?_
      refine r_if_le 76 dX11_bind_4 (by decide) (fun c4 => ?_) (fun c4 => ?_)
      · exact r_vret dX11_bind_76 rfl rfl rfl
      · exact absurd (by decide) c4
  | succ m ih =>
    intro i0 q h hs K M x2 x3 x4 hi z
    have z' := z
    obtain ⟨z1, z2, z3, z4, ⟨c, z5, z6⟩, e1, e2, e3, e4, e5, e6, e7, e8, e9, e10, e11, e12, e13, e14, e15, e16⟩ := z'
    obtain ⟨w0, w1⟩ := z5
    by_cases hr : cRk (K 30 m) < lv
    · refine JG.fin (r := none) (r' := none) (K' := K) (M' := M) ?_ ?_ ⟨rfl, rfl, m + 1, q, h, hs, Nat.le_refl _, z, Or.inr ⟨m, rfl, hr⟩, agW.rf q K M⟩
      · intro E ex t I J P n hn ht hE hq
        refine r_iload_n dX1_settle_2 rfl ?_
        refine r_bipush (v := 72) dX1_settle_3 (by decide) ?_
        refine r_ic_ge 52 dX1_settle_5 (by decide) (fun c5 => ?_) (fun c5 => ?_)
        · exact absurd c5 (nI_ge (a := i0) (b := 72) (by omega) (by decide))
        · refine r_aload_n dX1_settle_8 rfl ?_
          refine r_cV0i dX1_settle_9 vlX1_101 sh_29 (Nat.le_of_ble_eq_true rfl) (lr_s e1 (by omega) E ex t I J P n (by omega) ht hE hq) ?_
          refine r_iload_n dX1_settle_12 rfl ?_
          refine r_ic_lt 52 dX1_settle_13 (by decide) (fun c13 => ?_) (fun c13 => ?_)
          · exact r_vret dX1_settle_52 rfl rfl rfl
          · exact absurd hr c13
      · intro E ex I J P n hn hP
        refine r_aload_n dX11_bind_0 rfl ?_
        refine r_getIv dX11_bind_1 flX11_327 sh_347 (by decide) rfl (uR_v (by decide) e2) ?_
        refine r_if_le 76 dX11_bind_4 (by decide) (fun c4 => ?_) (fun c4 => ?_)
        · exact absurd c4 (nI_nle (by omega) (by omega))
        · refine r_aload_n dX11_bind_7 rfl ?_
          refine r_getR dX11_bind_8 flX11_87 sh_347 (by decide) rfl (pf_347_42 hP) ?_
          refine r_aload_n dX11_bind_11 rfl ?_
          refine r_getIv dX11_bind_12 flX11_327 sh_347 (by decide) rfl (uR_v (by decide) e2) ?_
          refine r_iconst (v := 1) dX11_bind_15 (by decide) ?_
          refine r_isub dX11_bind_16 ?_
          rw [nI_pred]
          refine r_ialv dX11_bind_17 sh_372 (vp_in_nI (n := m) (by omega) (by decide)) ((uR_r (by decide) _).trans (congrArg (M 372) (nI_clamp (n := m) (by omega)))) ?_
          refine r_cS1i dX11_bind_18 slX11_330 (Nat.le_of_ble_eq_true rfl) (k_ranky rfl _ (by omega)) ?_
          refine r_iload_n dX11_bind_21 rfl ?_
          refine r_ic_lt 76 dX11_bind_22 (by decide) (fun c22 => ?_) (fun c22 => ?_)
          · exact r_vret dX11_bind_76 rfl rfl rfl
          · exact absurd (by rw [← w0.r]; exact hr) c22
    have hm72 : m + 1 ≤ 72 := by omega
    rcases w1 with ⟨w1, -⟩ | ⟨w1, w2⟩ | ⟨w1, w2, c', w3, w4⟩
    · exact absurd (show cRk (K 30 m) < lv by rw [w1]; exact hlv) hr
    · have hc : h = c + 1 := by simpa using z6
      have hq64 := w2.le
      obtain ⟨x, rl, rfl⟩ : ∃ x rl, hs = x :: rl := by
        cases hs with
        | nil => simp at e14; omega
        | cons x rl => exact ⟨x, rl, rfl⟩
      have er : h = rl.length + 1 := e14.symm
      subst er
      have k2 : M 372 m = 2 := by
        rcases w0 with ⟨y1, y2⟩ | ⟨y1, y2⟩ | ⟨y1, y2⟩ | ⟨y1, y2⟩ | ⟨q2, y0, y1, y2⟩ | ⟨y1, y2⟩ | ⟨y1, y2⟩ | ⟨y1, y2⟩ | ⟨y1, y2⟩
        · rw [w1] at y1; exact absurd y1 (by decide)
        · exact y2
        · rw [w1] at y1; exact absurd y1 (by decide)
        · rw [w1] at y1; exact absurd y1 (by decide)
        · rw [w1] at y1
          have := (nI_eq (a := 22) (b := 23 + q2) (by decide) (by omega)).mp y1
          omega
        · rw [w1] at y1; exact absurd y1 (by decide)
        · rw [w1] at y1; exact absurd y1 (by decide)
        · rw [w1] at y1; exact absurd y1 (by decide)
        · rw [w1] at y1; exact absurd y1 (by decide)
      obtain ⟨g1, g2⟩ := stl_n z w1 ⟨c, w2, hc⟩
      have hx := Hd_top e16
      apply JG.ca (pc2 := 2)
      · intro r K' hk E ex t I J P n hn ht hE hq
        refine r_iload_n dX1_settle_2 rfl ?_
        refine r_bipush (v := 72) dX1_settle_3 (by decide) ?_
        refine r_ic_ge 52 dX1_settle_5 (by decide) (fun c5 => ?_) (fun c5 => ?_)
        · exact absurd c5 (nI_ge (a := i0) (b := 72) (by omega) (by decide))
        · refine r_aload_n dX1_settle_8 rfl ?_
          refine r_cV0i dX1_settle_9 vlX1_101 sh_29 (Nat.le_of_ble_eq_true rfl) (lr_s e1 (by omega) E ex t I J P n (by omega) ht hE hq) ?_
          refine r_iload_n dX1_settle_12 rfl ?_
          refine r_ic_lt 52 dX1_settle_13 (by decide) (fun c13 => ?_) (fun c13 => ?_)
          · exact absurd c13 hr
          · refine r_aload_n dX1_settle_16 rfl ?_
            refine r_dup dX1_settle_17 rfl ?_
            refine r_getIv dX1_settle_18 flX1_23 sh_29 (by decide) rfl (uC_cv ht (by decide) e1) ?_
            refine r_iconst (v := 1) dX1_settle_21 (by decide) ?_
            refine r_isub dX1_settle_22 ?_
            rw [nI_pred]
            refine r_putIv dX1_settle_23 flX1_23 ⟨_, _, _, rfl, Or.inl rfl⟩ sh_29 (by decide) rfl rfl rfl (uC_xc ht (by decide) _ _) ?_
            refine r_aload_n dX1_settle_26 rfl ?_
            refine r_getR dX1_settle_27 flX1_19 sh_29 (by decide) rfl (hq.2.2 rfl) ?_
            refine r_sipush (v := 10000) dX1_settle_30 (by decide) ?_
            refine r_aload_n dX1_settle_33 rfl ?_
            refine r_getR dX1_settle_34 flX1_11 sh_29 (by decide) rfl (pf_29_1 hq.1) ?_
            refine r_aload_n dX1_settle_37 rfl ?_
            refine r_getIv dX1_settle_38 flX1_23 sh_29 (by decide) rfl (uC_cv ht (by decide) (xu_s _ _ _ _)) ?_
            refine r_ialv dX1_settle_41 sh_30 (vp_in_nI (n := m) (by omega) (by decide)) ((uC_c ht (by decide) _).trans ((congrArg (xu K 29 2 (nI m) 30) (nI_clamp (n := m) (by omega))).trans (xu_ne (by omega)))) ?_
            refine r_iadd dX1_settle_42 ?_
            refine r_cV1v dX1_settle_43 vlX1_85 (tl_w _ ht) (Nat.le_of_ble_eq_true rfl) (put_c ((xu_ne (by omega)).trans e8) (by omega) _ E ex t I J P n (by omega) ht hE hq) ?_
            refine r_iinc2 (v := 1) dX1_settle_46 (by decide) rfl ?_
            rw [nI_1]
            refine r_goto 2 dX1_settle_49 (by decide) ?_
            exact hk E ex t I J P n hn ht hE hq
      apply JG.rb (pc2 := 0)
      · intro r K' hk E ex I J P n hn hP
        refine r_aload_n dX11_bind_0 rfl ?_
        refine r_getIv dX11_bind_1 flX11_327 sh_347 (by decide) rfl (uR_v (by decide) e2) ?_
        refine r_if_le 76 dX11_bind_4 (by decide) (fun c4 => ?_) (fun c4 => ?_)
        · exact absurd c4 (nI_nle (by omega) (by omega))
        · refine r_aload_n dX11_bind_7 rfl ?_
          refine r_getR dX11_bind_8 flX11_87 sh_347 (by decide) rfl (pf_347_42 hP) ?_
          refine r_aload_n dX11_bind_11 rfl ?_
          refine r_getIv dX11_bind_12 flX11_327 sh_347 (by decide) rfl (uR_v (by decide) e2) ?_
          refine r_iconst (v := 1) dX11_bind_15 (by decide) ?_
          refine r_isub dX11_bind_16 ?_
          rw [nI_pred]
          refine r_ialv dX11_bind_17 sh_372 (vp_in_nI (n := m) (by omega) (by decide)) ((uR_r (by decide) _).trans (congrArg (M 372) (nI_clamp (n := m) (by omega)))) ?_
          refine r_cS1i dX11_bind_18 slX11_330 (Nat.le_of_ble_eq_true rfl) (k_ranky rfl _ (by omega)) ?_
          refine r_iload_n dX11_bind_21 rfl ?_
          refine r_ic_lt 76 dX11_bind_22 (by decide) (fun c22 => ?_) (fun c22 => ?_)
          · exact absurd (by rw [w0.r]; exact c22) hr
          · refine r_aload_n dX11_bind_25 rfl ?_
            refine r_dup dX11_bind_26 rfl ?_
            refine r_getIv dX11_bind_27 flX11_327 sh_347 (by decide) rfl (uR_v (by decide) e2) ?_
            refine r_iconst (v := 1) dX11_bind_30 (by decide) ?_
            refine r_isub dX11_bind_31 ?_
            rw [nI_pred]
            refine r_putIv dX11_bind_32 flX11_327 ⟨_, _, _, rfl, Or.inl rfl⟩ sh_347 (by decide) rfl rfl rfl (uR_x (by decide) _ _) ?_
            refine r_aload_n dX11_bind_35 rfl ?_
            refine r_getR dX11_bind_36 flX11_87 sh_347 (by decide) rfl (pf_347_42 hP) ?_
            refine r_aload_n dX11_bind_39 rfl ?_
            refine r_getIv dX11_bind_40 flX11_327 sh_347 (by decide) rfl (uR_v (by decide) (xu_s _ _ _ _)) ?_
            refine r_ialv dX11_bind_43 sh_372 (vp_in_nI (n := m) (by omega) (by decide)) ((uR_r (by decide) _).trans ((congrArg (xu M 347 44 (nI m) 372) (nI_clamp (n := m) (by omega))).trans ((xu_ne (by omega)).trans k2))) ?_
            refine r_istore_n2 dX11_bind_44 rfl ?_
            refine r_iload_n dX11_bind_45 rfl ?_
            refine r_iconst (v := 2) dX11_bind_46 (by decide) ?_
            refine r_ic_ne 54 dX11_bind_47 (by decide) (fun c47 => ?_) (fun c47 => ?_)
            · exact absurd rfl c47
            · refine r_iconst (v := (-1)) dX11_bind_50 (by decide) ?_
              refine r_goto 58 dX11_bind_51 (by decide) ?_
              refine r_istore_n3 dX11_bind_58 rfl ?_
              refine r_aload_n dX11_bind_59 rfl ?_
              refine r_cV0i dX11_bind_60 vlX11_334 sh_347 (Nat.le_of_ble_eq_true rfl) (dh_r (h := rl.length) ((xu_ne (by omega)).trans e12) (by omega) ((xu_ne (by omega)).trans hx) E ex I J P n (by omega) hP) ?_
              refine r_istore4 dX11_bind_63 rfl ?_
              refine r_aload_n dX11_bind_65 rfl ?_
              refine r_iload_n dX11_bind_66 rfl ?_
              refine r_iload dX11_bind_67 rfl ?_
              refine r_iload_n dX11_bind_69 rfl ?_
              refine r_cV3v dX11_bind_70 vlX11_338 sh_347 (Nat.le_of_ble_eq_true rfl) (gr_r (h := rl.length) ((xu_ne (by omega)).trans ((xu_ne (by omega)).trans e9)) (xu_s _ _ _ _) (by omega) (by omega) _ _ _ E ex I J P n (by omega) hP) ?_
              refine r_goto 0 dX11_bind_73 (by decide) ?_
              exact hk E ex I J P n hn hP
      exact JG.q (fun r1 K1 r2 M1 y => Qs.up g2 (by omega) y) (ih (i0 + 1) (q + 1) _ _ _ _ _ _ _ (by omega) g1)
    · have hc : h = c' + 2 := by subst w3; simpa using z6
      have hq64 := w4.le
      obtain ⟨y, x, rl, rfl⟩ : ∃ y x rl, hs = y :: x :: rl := by
        cases hs with
        | nil => simp at e14; omega
        | cons y t =>
          cases t with
          | nil => simp at e14; omega
          | cons x rl => exact ⟨y, x, rl, rfl⟩
      have er : h = rl.length + 1 + 1 := e14.symm
      subst er
      have k2 : ¬ M 372 m = 2 := by
        intro k2
        rcases w0 with ⟨y1, y2⟩ | ⟨y1, y2⟩ | ⟨y1, y2⟩ | ⟨y1, y2⟩ | ⟨q2, y0, y1, y2⟩ | ⟨y1, y2⟩ | ⟨y1, y2⟩ | ⟨y1, y2⟩ | ⟨y1, y2⟩
        · exact w1 y1
        · exact w2 y1
        · rw [k2] at y2; exact absurd y2 (by decide)
        · rw [k2] at y2; exact absurd y2 (by decide)
        · rw [k2] at y2
          have := (nI_eq (a := 2) (b := 5 + q2) (by decide) (by omega)).mp y2
          omega
        · rw [k2] at y2; exact absurd y2 (by decide)
        · rw [k2] at y2; exact absurd y2 (by decide)
        · rw [k2] at y2; exact absurd y2 (by decide)
        · rw [k2] at y2; exact absurd y2 (by decide)
      obtain ⟨g1, g2⟩ := stl_b z ⟨w0, w1, w2⟩ ⟨c', w4, hc⟩
      have hy : M 373 (rl.length + 1) = nI y := Hd_top (r := x :: rl) e16
      have hx : M 373 rl.length = nI x := Hd_top (r := rl) (Hd_tl (r := x :: rl) e16)
      apply JG.ca (pc2 := 2)
      · intro r K' hk E ex t I J P n hn ht hE hq
        refine r_iload_n dX1_settle_2 rfl ?_
        refine r_bipush (v := 72) dX1_settle_3 (by decide) ?_
        refine r_ic_ge 52 dX1_settle_5 (by decide) (fun c5 => ?_) (fun c5 => ?_)
        · exact absurd c5 (nI_ge (a := i0) (b := 72) (by omega) (by decide))
        · refine r_aload_n dX1_settle_8 rfl ?_
          refine r_cV0i dX1_settle_9 vlX1_101 sh_29 (Nat.le_of_ble_eq_true rfl) (lr_s e1 (by omega) E ex t I J P n (by omega) ht hE hq) ?_
          refine r_iload_n dX1_settle_12 rfl ?_
          refine r_ic_lt 52 dX1_settle_13 (by decide) (fun c13 => ?_) (fun c13 => ?_)
          · exact absurd c13 hr
          · refine r_aload_n dX1_settle_16 rfl ?_
            refine r_dup dX1_settle_17 rfl ?_
            refine r_getIv dX1_settle_18 flX1_23 sh_29 (by decide) rfl (uC_cv ht (by decide) e1) ?_
            refine r_iconst (v := 1) dX1_settle_21 (by decide) ?_
            refine r_isub dX1_settle_22 ?_
            rw [nI_pred]
            refine r_putIv dX1_settle_23 flX1_23 ⟨_, _, _, rfl, Or.inl rfl⟩ sh_29 (by decide) rfl rfl rfl (uC_xc ht (by decide) _ _) ?_
            refine r_aload_n dX1_settle_26 rfl ?_
            refine r_getR dX1_settle_27 flX1_19 sh_29 (by decide) rfl (hq.2.2 rfl) ?_
            refine r_sipush (v := 10000) dX1_settle_30 (by decide) ?_
            refine r_aload_n dX1_settle_33 rfl ?_
            refine r_getR dX1_settle_34 flX1_11 sh_29 (by decide) rfl (pf_29_1 hq.1) ?_
            refine r_aload_n dX1_settle_37 rfl ?_
            refine r_getIv dX1_settle_38 flX1_23 sh_29 (by decide) rfl (uC_cv ht (by decide) (xu_s _ _ _ _)) ?_
            refine r_ialv dX1_settle_41 sh_30 (vp_in_nI (n := m) (by omega) (by decide)) ((uC_c ht (by decide) _).trans ((congrArg (xu K 29 2 (nI m) 30) (nI_clamp (n := m) (by omega))).trans (xu_ne (by omega)))) ?_
            refine r_iadd dX1_settle_42 ?_
            refine r_cV1v dX1_settle_43 vlX1_85 (tl_w _ ht) (Nat.le_of_ble_eq_true rfl) (put_c ((xu_ne (by omega)).trans e8) (by omega) _ E ex t I J P n (by omega) ht hE hq) ?_
            refine r_iinc2 (v := 1) dX1_settle_46 (by decide) rfl ?_
            rw [nI_1]
            refine r_goto 2 dX1_settle_49 (by decide) ?_
            exact hk E ex t I J P n hn ht hE hq
      apply JG.rb (pc2 := 0)
      · intro r K' hk E ex I J P n hn hP
        refine r_aload_n dX11_bind_0 rfl ?_
        refine r_getIv dX11_bind_1 flX11_327 sh_347 (by decide) rfl (uR_v (by decide) e2) ?_
        refine r_if_le 76 dX11_bind_4 (by decide) (fun c4 => ?_) (fun c4 => ?_)
        · exact absurd c4 (nI_nle (by omega) (by omega))
        · refine r_aload_n dX11_bind_7 rfl ?_
          refine r_getR dX11_bind_8 flX11_87 sh_347 (by decide) rfl (pf_347_42 hP) ?_
          refine r_aload_n dX11_bind_11 rfl ?_
          refine r_getIv dX11_bind_12 flX11_327 sh_347 (by decide) rfl (uR_v (by decide) e2) ?_
          refine r_iconst (v := 1) dX11_bind_15 (by decide) ?_
          refine r_isub dX11_bind_16 ?_
          rw [nI_pred]
          refine r_ialv dX11_bind_17 sh_372 (vp_in_nI (n := m) (by omega) (by decide)) ((uR_r (by decide) _).trans (congrArg (M 372) (nI_clamp (n := m) (by omega)))) ?_
          refine r_cS1i dX11_bind_18 slX11_330 (Nat.le_of_ble_eq_true rfl) (k_ranky rfl _ (by omega)) ?_
          refine r_iload_n dX11_bind_21 rfl ?_
          refine r_ic_lt 76 dX11_bind_22 (by decide) (fun c22 => ?_) (fun c22 => ?_)
          · exact absurd (by rw [w0.r]; exact c22) hr
          · refine r_aload_n dX11_bind_25 rfl ?_
            refine r_dup dX11_bind_26 rfl ?_
            refine r_getIv dX11_bind_27 flX11_327 sh_347 (by decide) rfl (uR_v (by decide) e2) ?_
            refine r_iconst (v := 1) dX11_bind_30 (by decide) ?_
            refine r_isub dX11_bind_31 ?_
            rw [nI_pred]
            refine r_putIv dX11_bind_32 flX11_327 ⟨_, _, _, rfl, Or.inl rfl⟩ sh_347 (by decide) rfl rfl rfl (uR_x (by decide) _ _) ?_
            refine r_aload_n dX11_bind_35 rfl ?_
            refine r_getR dX11_bind_36 flX11_87 sh_347 (by decide) rfl (pf_347_42 hP) ?_
            refine r_aload_n dX11_bind_39 rfl ?_
            refine r_getIv dX11_bind_40 flX11_327 sh_347 (by decide) rfl (uR_v (by decide) (xu_s _ _ _ _)) ?_
            refine r_ialv dX11_bind_43 sh_372 (vp_in_nI (n := m) (by omega) (by decide)) ((uR_r (by decide) _).trans ((congrArg (xu M 347 44 (nI m) 372) (nI_clamp (n := m) (by omega))).trans ((xu_ne (by omega)).trans rfl))) ?_
            refine r_istore_n2 dX11_bind_44 rfl ?_
            refine r_iload_n dX11_bind_45 rfl ?_
            refine r_iconst (v := 2) dX11_bind_46 (by decide) ?_
            refine r_ic_ne 54 dX11_bind_47 (by decide) (fun c47 => ?_) (fun c47 => ?_)
            · refine r_aload_n dX11_bind_54 rfl ?_
              refine r_cV0i dX11_bind_55 vlX11_334 sh_347 (Nat.le_of_ble_eq_true rfl) (dh_r (h := rl.length + 1) ((xu_ne (by omega)).trans e12) (by omega) ((xu_ne (by omega)).trans hy) E ex I J P n (by omega) hP) ?_
              refine r_istore_n3 dX11_bind_58 rfl ?_
              refine r_aload_n dX11_bind_59 rfl ?_
              refine r_cV0i dX11_bind_60 vlX11_334 sh_347 (Nat.le_of_ble_eq_true rfl) (dh_r (h := rl.length) (xu_s _ _ _ _) (by omega) ((xu_ne (by omega)).trans ((xu_ne (by omega)).trans hx)) E ex I J P n (by omega) hP) ?_
              refine r_istore4 dX11_bind_63 rfl ?_
              refine r_aload_n dX11_bind_65 rfl ?_
              refine r_iload_n dX11_bind_66 rfl ?_
              refine r_iload dX11_bind_67 rfl ?_
              refine r_iload_n dX11_bind_69 rfl ?_
              refine r_cV3v dX11_bind_70 vlX11_338 sh_347 (Nat.le_of_ble_eq_true rfl) (gr_r (h := rl.length) ((xu_ne (by omega)).trans ((xu_ne (by omega)).trans ((xu_ne (by omega)).trans e9))) (xu_s _ _ _ _) (by omega) (by omega) _ _ _ E ex I J P n (by omega) hP) ?_
              refine r_goto 0 dX11_bind_73 (by decide) ?_
              exact hk E ex I J P n hn hP
            · exact absurd c47 k2
      exact JG.q (fun r1 K1 r2 M1 y => Qs.up g2 (by omega) y) (ih (i0 + 1) (q + 1) _ _ _ _ _ _ _ (by omega) g1)
theorem stl_R {s0 q cnt n a h : Nat} {hs : List Nat} {lv : Int32} (hlv : 0 < lv) {K M : Nat → Nat → Int32} (z : jR s0 q cnt n a h hs 0 K M) : ∃ K' M' n' q' h' hs', cRun true 3 yX1_settle (fun _ => [.ref 29, .int lv]) K none K' ∧ rRun 2 yX11_bind [.ref 347, .int lv] M none M' ∧ q ≤ q' ∧ jR s0 q' cnt n' a h' hs' 0 K' M' ∧ (n' = 0 ∨ ∃ m, n' = m + 1 ∧ cRk (K' 30 m) < lv) ∧ agW q K K' M M' := by
  obtain ⟨r, K', r', M', g1, g2, rfl, rfl, n', q', h', hs', g3, g4, g5, g6⟩ := stl_J (s0 := s0) (cnt := cnt) (a := a) hlv n 0 q h hs K M none none none (by have := z.n72; omega) z
  refine ⟨K', M', n', q', h', hs', ?_, rAt.run (h := 1) cqX11_bind rfl (by simp [lg_sl, Value.category]) g2, g3, g4, g5, g6⟩
  refine cAt.run (h := 2) cqX1_settle (ls := [some (.ref 29), some (.int lv), none]) rfl (by simp [lg_sl, Value.category]) ?_
  intro E ex t I J P n hn ht hE hq
  refine r_iconst (v := 0) dX1_settle_0 (by decide) ?_
  refine r_istore_n2 dX1_settle_1 rfl ?_
  exact g1 E ex t I J P n hn ht hE hq
