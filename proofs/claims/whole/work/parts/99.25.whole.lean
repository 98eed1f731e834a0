/-! laws on both sides: E whole -/
def cAu (b : Bool) (h : Nat) (y : MethodName) (cc : ByteArray) (ret : Option FieldType) (pc : Nat) (ls : Nat → List (Option Value)) (st : List Value) (K : Nat → Nat → Int32) : Option Value → (Nat → Nat → Int32) → Prop := fun r K' => ∀ (E : xCl) (ex : Bool) (t : Nat) (I : Nat → Nat → Int32) (J : Nat → Nat → Int64) (P : Nat → Nat → Nat) (n : Nat), h ≤ n → t ∈ TL → EW E → Aq b t P → xR (xEx E ex n) ex none y cc ret pc (ls t) st (SH, uC t K I, J, P) (xEq r (SH, uC t K' I, J, P))
theorem JG.cu {b : Bool} {h : Nat} {y : MethodName} {cc : ByteArray} {ret : Option FieldType} {pc pc2 : Nat} {ls ls2 : Nat → List (Option Value)} {st st2 : List Value} {K K2 : Nat → Nat → Int32} {B : xJ} {Q : Option Value → (Nat → Nat → Int32) → Option Value → (Nat → Nat → Int32) → Prop} (z : ∀ r K', cAu b h y cc ret pc2 ls2 st2 K2 r K' → cAu b h y cc ret pc ls st K r K') (g : JG (cAu b h y cc ret pc2 ls2 st2 K2) B Q) : JG (cAu b h y cc ret pc ls st K) B Q := JG.a z g
theorem part_R {s0 q cnt nw ba h : Nat} {hs : List Nat} {s i p : Nat} {K M : Nat → Nat → Int32} (z : jR s0 q cnt nw ba h hs 1 K M) (gt : jT s i p K M) : ∃ r K' r' M', cRun true 3 yX1_part (fun _ => [.ref 29]) K r K' ∧ rRun 4 yX11_leafRead [.ref 347] M r' M' ∧ Qq s0 q s i p K M r K' r' M' := JG.run (h := 2) (h2 := 3) cqX1_part cqX11_leafRead rfl (by simp [lg_sl, Value.category]) rfl (by simp [lg_sl, Value.category]) (part_J z gt)
theorem behind_R {s0 q cnt nw ba h : Nat} {hs : List Nat} {s i p : Nat} {K M : Nat → Nat → Int32} (z : jR s0 q cnt nw ba h hs 0 K M) (gt : jT s i p K M) : ∃ r K' r' M', cRun true 4 yX1_behindPart (fun _ => [.ref 29]) K r K' ∧ rRun 4 yX11_signs [.ref 347] M r' M' ∧ Qq s0 q s i p K M r K' r' M' := JG.run (h := 3) (h2 := 3) cqX1_behindPart cqX11_signs rfl (by simp [lg_sl, Value.category]) rfl (by simp [lg_sl, Value.category]) (behind_J z gt)
def agE (q l : Nat) (K K' M M' : Nat → Nat → Int32) : Prop := (∀ a k, ¬ (a = 28 ∨ a = 29 ∨ a = 30 ∨ (a = 507 ∧ (k = 5 ∨ k = 6)) ∨ (a = 508 ∧ q ≤ k) ∨ ((a = 509 ∨ a = 510) ∧ k = l)) → K' a k = K a k) ∧ ∀ a k, ¬ ((a = 347 ∧ ((4 ≤ k ∧ k ≤ 11) ∨ k = 19 ∨ (44 ≤ k ∧ k ≤ 49))) ∨ ((369 ≤ a ∧ a ≤ 371) ∧ 64 + q ≤ k) ∨ a = 372 ∨ a = 373) → M' a k = M a k
/-- how E ends: with a fault at the token that stands then, or told whole -/
def Qz (s0 q l s p : Nat) (K M : Nat → Nat → Int32) : Option Value → (Nat → Nat → Int32) → Option Value → (Nat → Nat → Int32) → Prop := fun r K' r' M' => agE q l K K' M M' ∧ ((∃ f, (f = 1 ∨ f = 2) ∧ r = some (.int f) ∧ r' = some (.int 0) ∧ M' 347 4 = f ∧ M' 347 5 = K' 28 3) ∨ (r = some (.int 0) ∧ r' = some (.int 1) ∧ ∃ i' p' q' x, p ≤ p' ∧ jT s i' p' K' M' ∧ K' 28 4 = 35 ∧ q' ≤ 64 ∧ q ≤ q' ∧ s0 < q' ∧ K' 507 6 = nI q' ∧ K' 507 5 = nI q' ∧ M' 347 19 = nI q' ∧ M' 347 47 = nI q' ∧ Ws K' M' s0 (q' - s0) [x] ∧ K' 509 l = nI s0 ∧ K' 510 l = nI q' ∧ M' 347 4 = M 347 4 ∧ M' 347 5 = M 347 5))
theorem Qz.up {s0 q q1 l s p p1 : Nat} {K K1 M M1 : Nat → Nat → Int32} (h : agL q K K1 M M1) (hq : q ≤ q1) (hp : p ≤ p1) (h4 : M1 347 4 = M 347 4) (h5 : M1 347 5 = M 347 5) {r r' : Option Value} {K' M' : Nat → Nat → Int32} (z : Qz s0 q1 l s p1 K1 M1 r K' r' M') : Qz s0 q l s p K M r K' r' M' := by
  obtain ⟨z1, z2⟩ := z
  refine ⟨⟨fun a k y => (z1.1 a k (by omega)).trans (h.1 a k (by omega)), fun a k y => (z1.2 a k (by omega)).trans (h.2 a k (by omega))⟩, ?_⟩
  rcases z2 with z2 | ⟨w1, w2, i', p', q', x, y1, y2, y3, y4, y5, y6, y7, y8, y9, y10, y11, y12, y13, y14, y15⟩
  · exact Or.inl z2
  · exact Or.inr ⟨w1, w2, i', p', q', x, by omega, y2, y3, y4, by omega, y6, y7, y8, y9, y10, y11, y12, y13, y14.trans h4, y15.trans h5⟩
set_option maxHeartbeats 1000000 in
theorem ae_t {K : Nat → Nat → Int32} (h1 : K 29 4 = 0) (h2 : K 29 3 = 0) (h3 : K 28 4 = 35) : cRun true 1 yX1_atEnd (fun _ => [.ref 29]) K (some (.int 1)) K := by
  refine cAt.run (h := 0) cqX1_atEnd (ls := [some (.ref 29)]) rfl (by simp [lg_sl, Value.category]) ?_
  intro E ex t I J P n hn ht hE hq
  refine r_aload_n dX1_atEnd_0 rfl ?_
  refine r_getIv dX1_atEnd_1 flX1_30 sh_29 (by decide) rfl (uC_c ht (by decide) _) ?_
  refine r_if_ne 30 dX1_atEnd_4 (by decide) (fun c4 => ?_) (fun c4 => ?_)
  · exact absurd h1 c4
  · refine r_aload_n dX1_atEnd_7 rfl ?_
    refine r_getIv dX1_atEnd_8 flX1_27 sh_29 (by decide) rfl (uC_c ht (by decide) _) ?_
    refine r_if_ne 30 dX1_atEnd_11 (by decide) (fun c11 => ?_) (fun c11 => ?_)
    · exact absurd h2 c11
    · refine r_aload_n dX1_atEnd_14 rfl ?_
      refine r_getR dX1_atEnd_15 flX1_15 sh_29 (by decide) rfl (pf_29_0 hq.1) ?_
      refine r_getIv dX1_atEnd_18 flX1_68 sh_28 (by decide) rfl (uC_c ht (by decide) _) ?_
      refine r_bipush (v := 35) dX1_atEnd_21 (by decide) ?_
      refine r_ic_ne 30 dX1_atEnd_23 (by decide) (fun c23 => ?_) (fun c23 => ?_)
      · exact absurd h3 c23
      · refine r_iconst (v := 1) dX1_atEnd_26 (by decide) ?_
        refine r_goto 31 dX1_atEnd_27 (by decide) ?_
        exact r_iret dX1_atEnd_31 rfl rfl rfl rfl
set_option maxHeartbeats 1000000 in
theorem ae_f {K : Nat → Nat → Int32} (h0 : ¬ (K 29 4 = 0 ∧ K 29 3 = 0 ∧ K 28 4 = 35)) : cRun true 1 yX1_atEnd (fun _ => [.ref 29]) K (some (.int 0)) K := by
  refine cAt.run (h := 0) cqX1_atEnd (ls := [some (.ref 29)]) rfl (by simp [lg_sl, Value.category]) ?_
  intro E ex t I J P n hn ht hE hq
  refine r_aload_n dX1_atEnd_0 rfl ?_
  refine r_getIv dX1_atEnd_1 flX1_30 sh_29 (by decide) rfl (uC_c ht (by decide) _) ?_
  refine r_if_ne 30 dX1_atEnd_4 (by decide) (fun c4 => ?_) (fun c4 => ?_)
  · refine r_iconst (v := 0) dX1_atEnd_30 (by decide) ?_
    exact r_iret dX1_atEnd_31 rfl rfl rfl rfl
  · refine r_aload_n dX1_atEnd_7 rfl ?_
    refine r_getIv dX1_atEnd_8 flX1_27 sh_29 (by decide) rfl (uC_c ht (by decide) _) ?_
    refine r_if_ne 30 dX1_atEnd_11 (by decide) (fun c11 => ?_) (fun c11 => ?_)
    · refine r_iconst (v := 0) dX1_atEnd_30 (by decide) ?_
      exact r_iret dX1_atEnd_31 rfl rfl rfl rfl
    · refine r_aload_n dX1_atEnd_14 rfl ?_
      refine r_getR dX1_atEnd_15 flX1_15 sh_29 (by decide) rfl (pf_29_0 hq.1) ?_
      refine r_getIv dX1_atEnd_18 flX1_68 sh_28 (by decide) rfl (uC_c ht (by decide) _) ?_
      refine r_bipush (v := 35) dX1_atEnd_21 (by decide) ?_
      refine r_ic_ne 30 dX1_atEnd_23 (by decide) (fun c23 => ?_) (fun c23 => ?_)
      · refine r_iconst (v := 0) dX1_atEnd_30 (by decide) ?_
        exact r_iret dX1_atEnd_31 rfl rfl rfl rfl
      · exact absurd ⟨c4, c11, c23⟩ h0
set_option maxHeartbeats 8000000 in
theorem lp_J {s0 l s : Nat} (hl : l < 3) : ∀ c K M q cnt nw ba h hs (w : Int32) i p k, s < p + c → jR s0 q cnt nw ba h hs w K M → (w = 0 ∨ w = 1) → jT s i p K M → k ≤ p → JG (cAu true 4 yX1_readInto cX1_readInto (some .int) 39 (fun t => [some (.ref 29), some (.ref (t + 7)), some (.int (nI l)), some (.int (nI s0)), some (.int 0), some (.int (nI k))]) [] K) (rAt 4 yX11_sumRead cX11_sumRead (some .boolean) 25 [some (.ref 347)] [] M) (Qz s0 q l s p K M) := by
  intro c
  induction c with
  | zero => intro K M q cnt nw ba h hs w i p k hc z hw gt hk0; have := gt.2.1; have := gt.2.2.1; omega
  | succ c ih =>
  intro K M q cnt nw ba h hs w i p k hc z hw gt hk0
  have z' := z
  obtain ⟨z1, z2, z3, z4, ⟨c1, z5, z6⟩, e1, e2, e3, e4, e5, e6, e7, e8, e9, e10, e11, e12, e13, e14, e15, e16⟩ := z'
  have hle := z5.le
  have h72 := z.n72
  have bz : nI ba ≤ 0 → K 29 3 = 0 := fun z => by
    rw [e3]
    by_cases e : ba = 0
    · rw [e]; decide
    · exact absurd z (nI_nle (by omega) (by omega))
  have hs7 := gt.1
  have hi := gt.2.1
  have hpi := gt.2.2.1
  by_cases hend : K 29 4 = 0 ∧ K 29 3 = 0 ∧ K 28 4 = 35
  case pos =>
    obtain ⟨d1, d2, d3⟩ := hend
    have hw0 : w = 0 := e5.symm.trans d1
    subst hw0
    have hb0 : ba = 0 := (nI_eq (a := ba) (b := 0) (by omega) (by decide)).mp (e3.symm.trans d2)
    subst hb0
    have y := gt.tk.sgn (k0 := 35) (w0 := 59) (Or.inl ⟨rfl, rfl⟩)
    have y := y.resolve_right (fun e => e.1 d3)
    obtain ⟨K1, M1, n1, q1, h1, hs1, s1, s2, s3, s4, s5, s6⟩ := stl_R (lv := 1) (by decide) z
    obtain ⟨u1, u2, u3, u4, ⟨c2, u5, u6⟩, f1, f2, f3, f4, f5, f6, f7, f8, f9, f10, f11, f12, f13, f14, f15, f16⟩ := s4
    have n0 : n1 = 0 := by
      rcases s5 with s5 | ⟨m, rfl, hm⟩
      · exact s5
      · have h33 := u5.1.r0 hm
        rcases u5.2 with ⟨-, a', h, -⟩ | ⟨h, -⟩ | ⟨h, -⟩
        · omega
        · rw [h33] at h; exact absurd h (by decide)
        · exact absurd h33 h
    subst n0
    have hq1 : q1 = cnt := by omega
    subst hq1
    have hc2 := u5.2
    subst hc2
    have hh1 : h1 = 1 := by simpa using u6
    subst hh1
    obtain ⟨x, rfl⟩ : ∃ x, hs1 = [x] := by
      cases hs1 with
      | nil => simp at f14
      | cons x t =>
        cases t with
        | nil => exact ⟨x, rfl⟩
        | cons y t => simp at f14
    have hlt : s0 < q1 := by
      by_cases e : s0 = q1
      · subst e
        rw [Nat.sub_self] at f15
        exact absurd f15 (by simp [Ws])
      · omega
    have hK : ∀ a k, ¬ ((a = 509 ∨ a = 510) ∧ k = l) → (xu (xu K1 509 l (nI s0)) 510 l (nI q1)) a k = K1 a k := fun a k z => ((xu_ne (by omega)).trans (xu_ne (by omega)))
    refine JG.fin (r := some (.int 0)) (r' := some (.int 1)) (K' := xu (xu K1 509 l (nI s0)) 510 l (nI q1)) (M' := M1) ?_ ?_ ?_
    · intro E ex t I J P n hn ht hE hq
      refine r_iload dX1_readInto_39 rfl ?_
      refine r_sipush (v := 700) dX1_readInto_41 (by decide) ?_
      refine r_ic_gt 97 dX1_readInto_44 (by decide) (fun c44 => ?_) (fun c44 => ?_)
      · exact absurd c44 (Int32.not_lt.mpr (nI_le (a := k) (b := 700) (by omega) (by decide)))
      · refine r_iload dX1_readInto_47 rfl ?_
        refine r_if_ne 97 dX1_readInto_49 (by decide) (fun c49 => ?_) (fun c49 => ?_)
        · exact absurd c49 (by decide)
        · refine r_aload_n dX1_readInto_52 rfl ?_
          refine r_cV0i dX1_readInto_53 vlX1_42 sh_29 (Nat.le_of_ble_eq_true rfl) (ae_t d1 d2 d3 E ex t I J P n (by omega) ht hE hq) ?_
          refine r_if_ne 97 dX1_readInto_56 (by decide) (fun c56 => ?_) (fun c56 => ?_)
          · refine r_iload dX1_readInto_97 rfl ?_
            refine r_if_ne 133 dX1_readInto_99 (by decide) (fun c99 => ?_) (fun c99 => ?_)
            · exact absurd c99 (by decide)
            · refine r_aload_n dX1_readInto_102 rfl ?_
              refine r_iconst (v := 1) dX1_readInto_103 (by decide) ?_
              refine r_cV1v dX1_readInto_104 vlX1_58 sh_29 (Nat.le_of_ble_eq_true rfl) (s1 E ex t I J P n (by omega) ht hE hq) ?_
              refine r_aload_n dX1_readInto_107 rfl ?_
              refine r_getR dX1_readInto_108 flX1_19 sh_29 (by decide) rfl (hq.2.2 rfl) ?_
              refine r_getR dX1_readInto_111 flX1_62 (tl_w _ ht) (by decide) rfl (tw_p1 hq.1 _ ht) ?_
              refine r_iload_n dX1_readInto_114 rfl ?_
              refine r_iload_n dX1_readInto_115 rfl ?_
              refine r_iasv dX1_readInto_116 (tw_a1 _ ht) (vp_in_nI (n := l) (by omega) (by decide)) ((congrArg (fun z => xu _ _ z _) (nI_clamp (n := l) (by omega))).trans (uC_xb (b := 509) (by decide) (by decide) _ _ ht)) ?_
              refine r_aload_n dX1_readInto_117 rfl ?_
              refine r_getR dX1_readInto_118 flX1_19 sh_29 (by decide) rfl (hq.2.2 rfl) ?_
              refine r_getR dX1_readInto_121 flX1_65 (tl_w _ ht) (by decide) rfl (tw_p2 hq.1 _ ht) ?_
              refine r_iload_n dX1_readInto_124 rfl ?_
              refine r_aload_n dX1_readInto_125 rfl ?_
              refine r_getR dX1_readInto_126 flX1_19 sh_29 (by decide) rfl (hq.2.2 rfl) ?_
              refine r_getIv dX1_readInto_129 flX1_37 (tl_w _ ht) (by decide) rfl ((uC_tb (b := 507) (by decide) (by decide) _).trans ((xu_ne (by omega)).trans f8)) ?_
              refine r_iasv dX1_readInto_132 (tw_a2 _ ht) (vp_in_nI (n := l) (by omega) (by decide)) ((congrArg (fun z => xu _ _ z _) (nI_clamp (n := l) (by omega))).trans (uC_xb (b := 510) (by decide) (by decide) _ _ ht)) ?_
              refine r_iload dX1_readInto_133 rfl ?_
              exact r_iret dX1_readInto_135 rfl rfl rfl rfl
          · exact absurd c56 (by decide)
    · intro E ex I J P n hn hP
      refine r_aload_n dX11_sumRead_25 rfl ?_
      refine r_bipush (v := 59) dX11_sumRead_26 (by decide) ?_
      refine r_cV1i dX11_sumRead_28 vlX11_248 sh_347 (Nat.le_of_ble_eq_true rfl) (isSign_r_t y.2 E ex I J P n (by omega) hP) ?_
      refine r_if_eq 48 dX11_sumRead_31 (by decide) (fun c31 => ?_) (fun c31 => ?_)
      · exact absurd c31 (by decide)
      · refine r_aload_n dX11_sumRead_34 rfl ?_
        refine r_getIv dX11_sumRead_35 flX11_359 sh_347 (by decide) rfl (uR_v (by decide) e6) ?_
        refine r_if_ne 48 dX11_sumRead_38 (by decide) (fun c38 => ?_) (fun c38 => ?_)
        · exact absurd rfl c38
        · refine r_aload_n dX11_sumRead_41 rfl ?_
          refine r_getIv dX11_sumRead_42 flX11_342 sh_347 (by decide) rfl (uR_v (by decide) e4) ?_
          refine r_if_le 74 dX11_sumRead_45 (by decide) (fun c45 => ?_) (fun c45 => ?_)
          · refine r_aload_n dX11_sumRead_74 rfl ?_
            refine r_iconst (v := 1) dX11_sumRead_75 (by decide) ?_
            refine r_cV1v dX11_sumRead_76 vlX11_362 sh_347 (Nat.le_of_ble_eq_true rfl) (s2 E ex I J P n (by omega) hP) ?_
            refine r_iconst (v := 1) dX11_sumRead_79 (by decide) ?_
            exact r_iret dX11_sumRead_80 rfl rfl rfl rfl
          · exact absurd (by decide) c45
    · refine ⟨⟨fun a k z => (hK a k (by omega)).trans (s6.1 a k (by omega)), fun a k z => s6.2 a k (by omega)⟩, Or.inr ⟨rfl, rfl, i, p, q1, x, Nat.le_refl _, gt.c (fun a k z => (hK a k (by omega)).trans (s6.1 a k (by omega))) (fun a k z => s6.2 a k (by omega)), ((hK _ _ (by omega)).trans (s6.1 _ _ (by omega))).trans d3, u1, s3, hlt, (hK _ _ (by omega)).trans f8, (hK _ _ (by omega)).trans f10, f9, f11, f15.c (fun k _ _ => hK _ _ (by omega)) (fun a k _ _ _ => rfl), (xu_ne (by omega)).trans (xu_s _ _ _ _), xu_s _ _ _ _, s6.2 _ _ (by omega), s6.2 _ _ (by omega)⟩⟩
  have entR : ∀ r M', rAt 4 yX11_sumRead cX11_sumRead (some .boolean) 48 [some (.ref 347)] [] M r M' → rAt 4 yX11_sumRead cX11_sumRead (some .boolean) 25 [some (.ref 347)] [] M r M' := by
    intro r M' hk E ex I J P n hn hP
    rcases gt.tk.sgn (k0 := 35) (w0 := 59) (Or.inl ⟨rfl, rfl⟩) with ⟨h34, y⟩ | ⟨h34, y⟩
    · refine r_aload_n dX11_sumRead_25 rfl ?_
      refine r_bipush (v := 59) dX11_sumRead_26 (by decide) ?_
      refine r_cV1i dX11_sumRead_28 vlX11_248 sh_347 (Nat.le_of_ble_eq_true rfl) (isSign_r_t y E ex I J P n (by omega) hP) ?_
      refine r_if_eq 48 dX11_sumRead_31 (by decide) (fun c31 => ?_) (fun c31 => ?_)
      · exact absurd c31 (by decide)
      · refine r_aload_n dX11_sumRead_34 rfl ?_
        refine r_getIv dX11_sumRead_35 flX11_359 sh_347 (by decide) rfl (uR_v (by decide) e6) ?_
        refine r_if_ne 48 dX11_sumRead_38 (by decide) (fun c38 => ?_) (fun c38 => ?_)
        · exact hk E ex I J P n hn hP
        · refine r_aload_n dX11_sumRead_41 rfl ?_
          refine r_getIv dX11_sumRead_42 flX11_342 sh_347 (by decide) rfl (uR_v (by decide) e4) ?_
          refine r_if_le 74 dX11_sumRead_45 (by decide) (fun c45 => ?_) (fun c45 => ?_)
          · exact absurd ⟨e5.trans c38, bz c45, h34⟩ hend
          · exact hk E ex I J P n hn hP
    · refine r_aload_n dX11_sumRead_25 rfl ?_
      refine r_bipush (v := 59) dX11_sumRead_26 (by decide) ?_
      refine r_cV1i dX11_sumRead_28 vlX11_248 sh_347 (Nat.le_of_ble_eq_true rfl) (isSign_r_f y E ex I J P n (by omega) hP) ?_
      refine r_if_eq 48 dX11_sumRead_31 (by decide) (fun c31 => ?_) (fun c31 => ?_)
      · exact hk E ex I J P n hn hP
      · exact absurd c31 (by decide)
  refine JG.b entR ?_
  rcases hw with rfl | rfl
  case inr =>
    obtain ⟨r1, K1, r2, M1, g1, g2, g3⟩ := part_R z gt
    rcases g3 with ⟨f, y1, rfl, rfl, y2, y3, y4, y5⟩ | ⟨rfl, rfl, K2, i2, p2, q2, cnt2, n2, a2, h2, hs2, w2, y1, y2, y3, y4, y5, y6, y7, y8, y9, y10⟩
    · have hf0 : ¬ f = 0 := by rcases y1 with rfl | rfl <;> decide
      refine JG.fin (r := some (.int f)) (r' := some (.int 0)) (K' := K1) (M' := M1) ?_ ?_ ?_
      · intro E ex t I J P n hn ht hE hq
        refine r_iload dX1_readInto_39 rfl ?_
        refine r_sipush (v := 700) dX1_readInto_41 (by decide) ?_
        refine r_ic_gt 97 dX1_readInto_44 (by decide) (fun c44 => ?_) (fun c44 => ?_)
        · exact absurd c44 (Int32.not_lt.mpr (nI_le (a := k) (b := 700) (by omega) (by decide)))
        · refine r_iload dX1_readInto_47 rfl ?_
          refine r_if_ne 97 dX1_readInto_49 (by decide) (fun c49 => ?_) (fun c49 => ?_)
          · exact absurd c49 (by decide)
          · refine r_aload_n dX1_readInto_52 rfl ?_
            refine r_cV0i dX1_readInto_53 vlX1_42 sh_29 (Nat.le_of_ble_eq_true rfl) (ae_f hend E ex t I J P n (by omega) ht hE hq) ?_
            refine r_if_ne 97 dX1_readInto_56 (by decide) (fun c56 => ?_) (fun c56 => ?_)
            · exact absurd c56 (by decide)
            · refine r_aload_n dX1_readInto_59 rfl ?_
              refine r_getIv dX1_readInto_60 flX1_30 sh_29 (by decide) rfl (uC_cv ht (by decide) e5) ?_
              refine r_if_eq 73 dX1_readInto_63 (by decide) (fun c63 => ?_) (fun c63 => ?_)
              · exact absurd c63 (by decide)
              · refine r_aload_n dX1_readInto_66 rfl ?_
                refine r_cV0i dX1_readInto_67 vlX1_46 sh_29 (Nat.le_of_ble_eq_true rfl) (g1 E ex t I J P n (by omega) ht hE hq) ?_
                refine r_goto 77 dX1_readInto_70 (by decide) ?_
                refine r_istore4 dX1_readInto_77 rfl ?_
                refine r_iload dX1_readInto_79 rfl ?_
                refine r_if_ne 91 dX1_readInto_81 (by decide) (fun c81 => ?_) (fun c81 => ?_)
                · refine r_iinc5 (v := 1) dX1_readInto_91 (by decide) rfl ?_
                  refine r_goto 39 dX1_readInto_94 (by decide) ?_
                  refine r_iload dX1_readInto_39 rfl ?_
                  refine r_sipush (v := 700) dX1_readInto_41 (by decide) ?_
                  refine r_ic_gt 97 dX1_readInto_44 (by decide) (fun c44 => ?_) (fun c44 => ?_)
                  · refine r_iload dX1_readInto_97 rfl ?_
                    refine r_if_ne 133 dX1_readInto_99 (by decide) (fun c99 => ?_) (fun c99 => ?_)
                    · refine r_iload dX1_readInto_133 rfl ?_
                      exact r_iret dX1_readInto_135 rfl rfl rfl rfl
                    · exact absurd c99 hf0
                  · refine r_iload dX1_readInto_47 rfl ?_
                    refine r_if_ne 97 dX1_readInto_49 (by decide) (fun c49 => ?_) (fun c49 => ?_)
                    · refine r_iload dX1_readInto_97 rfl ?_
                      refine r_if_ne 133 dX1_readInto_99 (by decide) (fun c99 => ?_) (fun c99 => ?_)
                      · refine r_iload dX1_readInto_133 rfl ?_
                        exact r_iret dX1_readInto_135 rfl rfl rfl rfl
                      · exact absurd c99 hf0
                    · exact absurd c49 hf0
                · exact absurd c81 hf0
      · intro E ex I J P n hn hP
        refine r_aload_n dX11_sumRead_48 rfl ?_
        refine r_getIv dX11_sumRead_49 flX11_359 sh_347 (by decide) rfl (uR_v (by decide) e6) ?_
        refine r_if_eq 65 dX11_sumRead_52 (by decide) (fun c52 => ?_) (fun c52 => ?_)
        · exact absurd c52 (by decide)
        · refine r_aload_n dX11_sumRead_55 rfl ?_
          refine r_cV0i dX11_sumRead_56 vlX11_365 sh_347 (Nat.le_of_ble_eq_true rfl) (g2 E ex I J P n (by omega) hP) ?_
          refine r_if_eq 72 dX11_sumRead_59 (by decide) (fun c59 => ?_) (fun c59 => ?_)
          · refine r_iconst (v := 0) dX11_sumRead_72 (by decide) ?_
            exact r_iret dX11_sumRead_73 rfl rfl rfl rfl
          · exact absurd c59 (by decide)
      · exact ⟨⟨fun a k z => y5.1 a k (by omega), fun a k z => y5.2 a k (by omega)⟩, Or.inl ⟨f, y1, rfl, rfl, y2, y3.trans (gt.pl.symm.trans y4.symm)⟩⟩
    apply JG.cu (pc2 := 39)
    · intro r K' hk E ex t I J P n hn ht hE hq
      refine r_iload dX1_readInto_39 rfl ?_
      refine r_sipush (v := 700) dX1_readInto_41 (by decide) ?_
      refine r_ic_gt 97 dX1_readInto_44 (by decide) (fun c44 => ?_) (fun c44 => ?_)
      · exact absurd c44 (Int32.not_lt.mpr (nI_le (a := k) (b := 700) (by omega) (by decide)))
      · refine r_iload dX1_readInto_47 rfl ?_
        refine r_if_ne 97 dX1_readInto_49 (by decide) (fun c49 => ?_) (fun c49 => ?_)
        · exact absurd c49 (by decide)
        · refine r_aload_n dX1_readInto_52 rfl ?_
          refine r_cV0i dX1_readInto_53 vlX1_42 sh_29 (Nat.le_of_ble_eq_true rfl) (ae_f hend E ex t I J P n (by omega) ht hE hq) ?_
          refine r_if_ne 97 dX1_readInto_56 (by decide) (fun c56 => ?_) (fun c56 => ?_)
          · exact absurd c56 (by decide)
          · refine r_aload_n dX1_readInto_59 rfl ?_
            refine r_getIv dX1_readInto_60 flX1_30 sh_29 (by decide) rfl (uC_cv ht (by decide) e5) ?_
            refine r_if_eq 73 dX1_readInto_63 (by decide) (fun c63 => ?_) (fun c63 => ?_)
            · exact absurd c63 (by decide)
            · refine r_aload_n dX1_readInto_66 rfl ?_
              refine r_cV0i dX1_readInto_67 vlX1_46 sh_29 (Nat.le_of_ble_eq_true rfl) (g1 E ex t I J P n (by omega) ht hE hq) ?_
              refine r_goto 77 dX1_readInto_70 (by decide) ?_
              refine r_istore4 dX1_readInto_77 rfl ?_
              refine r_iload dX1_readInto_79 rfl ?_
              refine r_if_ne 91 dX1_readInto_81 (by decide) (fun c81 => ?_) (fun c81 => ?_)
              · exact absurd c81 (by decide)
              · refine r_aload_n dX1_readInto_84 rfl ?_
                refine r_getR dX1_readInto_85 flX1_15 sh_29 (by decide) rfl (pf_29_0 hq.1) ?_
                refine r_cV0v dX1_readInto_88 vlX1_53 sh_28 (Nat.le_of_ble_eq_true rfl) (y1 E ex t I J P n (by omega) ht hE hq) ?_
                refine r_iinc5 (v := 1) dX1_readInto_91 (by decide) rfl ?_
                rw [nI_1]
                refine r_goto 39 dX1_readInto_94 (by decide) ?_
                exact hk E ex t I J P n hn ht hE hq
    apply JG.rb (pc2 := 25)
    · intro r K' hk E ex I J P n hn hP
      refine r_aload_n dX11_sumRead_48 rfl ?_
      refine r_getIv dX11_sumRead_49 flX11_359 sh_347 (by decide) rfl (uR_v (by decide) e6) ?_
      refine r_if_eq 65 dX11_sumRead_52 (by decide) (fun c52 => ?_) (fun c52 => ?_)
      · exact absurd c52 (by decide)
      · refine r_aload_n dX11_sumRead_55 rfl ?_
        refine r_cV0i dX11_sumRead_56 vlX11_365 sh_347 (Nat.le_of_ble_eq_true rfl) (g2 E ex I J P n (by omega) hP) ?_
        refine r_if_eq 72 dX11_sumRead_59 (by decide) (fun c59 => ?_) (fun c59 => ?_)
        · exact absurd c59 (by decide)
        · refine r_goto 25 dX11_sumRead_62 (by decide) ?_
          exact hk E ex I J P n hn hP
    exact JG.q (fun r1 K' r2 M' y => Qz.up y8 y5 (by omega) y9 y10 y) (ih K2 M1 q2 cnt2 n2 a2 h2 hs2 w2 i2 p2 (k + 1) (by omega) y6 y7 y4 (by omega))
  obtain ⟨r1, K1, r2, M1, g1, g2, g3⟩ := behind_R z gt
  rcases g3 with ⟨f, y1, rfl, rfl, y2, y3, y4, y5⟩ | ⟨rfl, rfl, K2, i2, p2, q2, cnt2, n2, a2, h2, hs2, w2, y1, y2, y3, y4, y5, y6, y7, y8, y9, y10⟩
  · have hf0 : ¬ f = 0 := by rcases y1 with rfl | rfl <;> decide
    refine JG.fin (r := some (.int f)) (r' := some (.int 0)) (K' := K1) (M' := M1) ?_ ?_ ?_
    · intro E ex t I J P n hn ht hE hq
      refine r_iload dX1_readInto_39 rfl ?_
      refine r_sipush (v := 700) dX1_readInto_41 (by decide) ?_
      refine r_ic_gt 97 dX1_readInto_44 (by decide) (fun c44 => ?_) (fun c44 => ?_)
      · exact absurd c44 (Int32.not_lt.mpr (nI_le (a := k) (b := 700) (by omega) (by decide)))
      · refine r_iload dX1_readInto_47 rfl ?_
        refine r_if_ne 97 dX1_readInto_49 (by decide) (fun c49 => ?_) (fun c49 => ?_)
        · exact absurd c49 (by decide)
        · refine r_aload_n dX1_readInto_52 rfl ?_
          refine r_cV0i dX1_readInto_53 vlX1_42 sh_29 (Nat.le_of_ble_eq_true rfl) (ae_f hend E ex t I J P n (by omega) ht hE hq) ?_
          refine r_if_ne 97 dX1_readInto_56 (by decide) (fun c56 => ?_) (fun c56 => ?_)
          · exact absurd c56 (by decide)
          · refine r_aload_n dX1_readInto_59 rfl ?_
            refine r_getIv dX1_readInto_60 flX1_30 sh_29 (by decide) rfl (uC_cv ht (by decide) e5) ?_
            refine r_if_eq 73 dX1_readInto_63 (by decide) (fun c63 => ?_) (fun c63 => ?_)
            · refine r_aload_n dX1_readInto_73 rfl ?_
              refine r_cV0i dX1_readInto_74 vlX1_50 sh_29 (Nat.le_of_ble_eq_true rfl) (g1 E ex t I J P n (by omega) ht hE hq) ?_
              refine r_istore4 dX1_readInto_77 rfl ?_
              refine r_iload dX1_readInto_79 rfl ?_
              refine r_if_ne 91 dX1_readInto_81 (by decide) (fun c81 => ?_) (fun c81 => ?_)
              · refine r_iinc5 (v := 1) dX1_readInto_91 (by decide) rfl ?_
                refine r_goto 39 dX1_readInto_94 (by decide) ?_
                refine r_iload dX1_readInto_39 rfl ?_
                refine r_sipush (v := 700) dX1_readInto_41 (by decide) ?_
                refine r_ic_gt 97 dX1_readInto_44 (by decide) (fun c44 => ?_) (fun c44 => ?_)
                · refine r_iload dX1_readInto_97 rfl ?_
                  refine r_if_ne 133 dX1_readInto_99 (by decide) (fun c99 => ?_) (fun c99 => ?_)
                  · refine r_iload dX1_readInto_133 rfl ?_
                    exact r_iret dX1_readInto_135 rfl rfl rfl rfl
                  · exact absurd c99 hf0
                · refine r_iload dX1_readInto_47 rfl ?_
                  refine r_if_ne 97 dX1_readInto_49 (by decide) (fun c49 => ?_) (fun c49 => ?_)
                  · refine r_iload dX1_readInto_97 rfl ?_
                    refine r_if_ne 133 dX1_readInto_99 (by decide) (fun c99 => ?_) (fun c99 => ?_)
                    · refine r_iload dX1_readInto_133 rfl ?_
                      exact r_iret dX1_readInto_135 rfl rfl rfl rfl
                    · exact absurd c99 hf0
                  · exact absurd c49 hf0
              · exact absurd c81 hf0
            · exact absurd rfl c63
    · intro E ex I J P n hn hP
      refine r_aload_n dX11_sumRead_48 rfl ?_
      refine r_getIv dX11_sumRead_49 flX11_359 sh_347 (by decide) rfl (uR_v (by decide) e6) ?_
      refine r_if_eq 65 dX11_sumRead_52 (by decide) (fun c52 => ?_) (fun c52 => ?_)
      · refine r_aload_n dX11_sumRead_65 rfl ?_
        refine r_cV0i dX11_sumRead_66 vlX11_368 sh_347 (Nat.le_of_ble_eq_true rfl) (g2 E ex I J P n (by omega) hP) ?_
        refine r_if_ne 25 dX11_sumRead_69 (by decide) (fun c69 => ?_) (fun c69 => ?_)
        · exact absurd c69 (by decide)
        · refine r_iconst (v := 0) dX11_sumRead_72 (by decide) ?_
          exact r_iret dX11_sumRead_73 rfl rfl rfl rfl
      · exact absurd rfl c52
    · exact ⟨⟨fun a k z => y5.1 a k (by omega), fun a k z => y5.2 a k (by omega)⟩, Or.inl ⟨f, y1, rfl, rfl, y2, y3.trans (gt.pl.symm.trans y4.symm)⟩⟩
  apply JG.cu (pc2 := 39)
  · intro r K' hk E ex t I J P n hn ht hE hq
    refine r_iload dX1_readInto_39 rfl ?_
    refine r_sipush (v := 700) dX1_readInto_41 (by decide) ?_
    refine r_ic_gt 97 dX1_readInto_44 (by decide) (fun c44 => ?_) (fun c44 => ?_)
    · exact absurd c44 (Int32.not_lt.mpr (nI_le (a := k) (b := 700) (by omega) (by decide)))
    · refine r_iload dX1_readInto_47 rfl ?_
      refine r_if_ne 97 dX1_readInto_49 (by decide) (fun c49 => ?_) (fun c49 => ?_)
      · exact absurd c49 (by decide)
      · refine r_aload_n dX1_readInto_52 rfl ?_
        refine r_cV0i dX1_readInto_53 vlX1_42 sh_29 (Nat.le_of_ble_eq_true rfl) (ae_f hend E ex t I J P n (by omega) ht hE hq) ?_
        refine r_if_ne 97 dX1_readInto_56 (by decide) (fun c56 => ?_) (fun c56 => ?_)
        · exact absurd c56 (by decide)
        · refine r_aload_n dX1_readInto_59 rfl ?_
          refine r_getIv dX1_readInto_60 flX1_30 sh_29 (by decide) rfl (uC_cv ht (by decide) e5) ?_
          refine r_if_eq 73 dX1_readInto_63 (by decide) (fun c63 => ?_) (fun c63 => ?_)
          · refine r_aload_n dX1_readInto_73 rfl ?_
            refine r_cV0i dX1_readInto_74 vlX1_50 sh_29 (Nat.le_of_ble_eq_true rfl) (g1 E ex t I J P n (by omega) ht hE hq) ?_
            refine r_istore4 dX1_readInto_77 rfl ?_
            refine r_iload dX1_readInto_79 rfl ?_
            refine r_if_ne 91 dX1_readInto_81 (by decide) (fun c81 => ?_) (fun c81 => ?_)
            · exact absurd c81 (by decide)
            · refine r_aload_n dX1_readInto_84 rfl ?_
              refine r_getR dX1_readInto_85 flX1_15 sh_29 (by decide) rfl (pf_29_0 hq.1) ?_
              refine r_cV0v dX1_readInto_88 vlX1_53 sh_28 (Nat.le_of_ble_eq_true rfl) (y1 E ex t I J P n (by omega) ht hE hq) ?_
              refine r_iinc5 (v := 1) dX1_readInto_91 (by decide) rfl ?_
              rw [nI_1]
              refine r_goto 39 dX1_readInto_94 (by decide) ?_
              exact hk E ex t I J P n hn ht hE hq
          · exact absurd rfl c63
  apply JG.rb (pc2 := 25)
  · intro r K' hk E ex I J P n hn hP
    refine r_aload_n dX11_sumRead_48 rfl ?_
    refine r_getIv dX11_sumRead_49 flX11_359 sh_347 (by decide) rfl (uR_v (by decide) e6) ?_
    refine r_if_eq 65 dX11_sumRead_52 (by decide) (fun c52 => ?_) (fun c52 => ?_)
    · refine r_aload_n dX11_sumRead_65 rfl ?_
      refine r_cV0i dX11_sumRead_66 vlX11_368 sh_347 (Nat.le_of_ble_eq_true rfl) (g2 E ex I J P n (by omega) hP) ?_
      refine r_if_ne 25 dX11_sumRead_69 (by decide) (fun c69 => ?_) (fun c69 => ?_)
      · exact hk E ex I J P n hn hP
      · exact absurd c69 (by decide)
    · exact absurd rfl c52
  exact JG.q (fun r1 K' r2 M' y => Qz.up y8 y5 (by omega) y9 y10 y) (ih K2 M1 q2 cnt2 n2 a2 h2 hs2 w2 i2 p2 (k + 1) (by omega) y6 y7 y4 (by omega))
