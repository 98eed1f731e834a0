/-! lines one after another, on both sides -/
set_option maxHeartbeats 1000000 in
theorem hm_t {K : Nat → Nat → Int32} (h : ¬ K 28 4 = 38) : cRun false 1 yX7_hasMore (fun _ => [.ref 2]) K (some (.int 1)) K := by
  refine cAt.run (h := 0) cqX7_hasMore (ls := [some (.ref 2)]) rfl (by simp [lg_sl, Value.category]) ?_
  intro E ex t I J P n hn ht hE hq
  refine r_aload_n dX7_hasMore_0 rfl ?_
  refine r_getR dX7_hasMore_1 flX7_32 sh_2 (by decide) rfl (pf_2_0 hq.1) ?_
  refine r_getIv dX7_hasMore_4 flX7_61 sh_28 (by decide) rfl (uC_c ht (by decide) _) ?_
  refine r_bipush (v := 38) dX7_hasMore_7 (by decide) ?_
  refine r_ic_eq 16 dX7_hasMore_9 (by decide) (fun c9 => ?_) (fun c9 => ?_)
  · exact absurd c9 h
  · refine r_iconst (v := 1) dX7_hasMore_12 (by decide) ?_
    refine r_goto 17 dX7_hasMore_13 (by decide) ?_
    exact r_iret dX7_hasMore_17 rfl rfl rfl rfl
set_option maxHeartbeats 1000000 in
theorem hm_f {K : Nat → Nat → Int32} (h : K 28 4 = 38) : cRun false 1 yX7_hasMore (fun _ => [.ref 2]) K (some (.int 0)) K := by
  refine cAt.run (h := 0) cqX7_hasMore (ls := [some (.ref 2)]) rfl (by simp [lg_sl, Value.category]) ?_
  intro E ex t I J P n hn ht hE hq
  refine r_aload_n dX7_hasMore_0 rfl ?_
  refine r_getR dX7_hasMore_1 flX7_32 sh_2 (by decide) rfl (pf_2_0 hq.1) ?_
  refine r_getIv dX7_hasMore_4 flX7_61 sh_28 (by decide) rfl (uC_c ht (by decide) _) ?_
  refine r_bipush (v := 38) dX7_hasMore_7 (by decide) ?_
  refine r_ic_eq 16 dX7_hasMore_9 (by decide) (fun c9 => ?_) (fun c9 => ?_)
  · refine r_iconst (v := 0) dX7_hasMore_16 (by decide) ?_
    exact r_iret dX7_hasMore_17 rfl rfl rfl rfl
  · exact absurd h c9
def Pk (P P' : Nat → Nat → Nat) : Prop := ∀ a k, ¬ (a = 29 ∧ k = 6) → P' a k = P a k
theorem Pk.rf (P : Nat → Nat → Nat) : Pk P P := fun _ _ _ => rfl
theorem Pk.tr {P P1 P2 : Nat → Nat → Nat} (h : Pk P P1) (g : Pk P1 P2) : Pk P P2 := fun a k z => (g a k z).trans (h a k z)
def cLoop (x : Int32) (k : Nat) (K : Nat → Nat → Int32) (v : Int32) (k' : Nat) (K' : Nat → Nat → Int32) : Prop := ∀ (E : xCl) (ex : Bool) (t : Nat) (I : Nat → Nat → Int32) (J : Nat → Nat → Int64) (P : Nat → Nat → Nat) (n : Nat) (Q : Option Value → xS → Prop), 7 ≤ n → t ∈ TL → EW E → Aq false t P → (∀ P', Pk P P' → Aq false t P' → xR (xEx E ex n) ex none yX10_text cX10_text (some .int) 67 [some (.ref 0), some (.int x), some (.int v), some (.int (nI k'))] [] (SH, uC t K' I, J, P') Q) → xR (xEx E ex n) ex none yX10_text cX10_text (some .int) 32 [some (.ref 0), some (.int x), some (.int 1), some (.int (nI k))] [] (SH, uC t K I, J, P) Q
def rLoop (x : Int32) (l : Nat) (M : Nat → Nat → Int32) (l' : Nat) (M' : Nat → Nat → Int32) : Prop := ∀ (E : xCl) (ex : Bool) (I : Nat → Nat → Int32) (J : Nat → Nat → Int64) (P : Nat → Nat → Nat) (n : Nat) (Q : Option Value → xS → Prop), 7 ≤ n → Pok P → xR (xEx E ex n) ex none yX11_text cX11_text (some .int) 77 [some (.ref 347), some (.int x), some (.int (nI l'))] [] (SH, uR M' I, J, P) Q → xR (xEx E ex n) ex none yX11_text cX11_text (some .int) 55 [some (.ref 347), some (.int x), some (.int (nI l))] [] (SH, uR M I, J, P) Q
set_option maxHeartbeats 4000000 in
theorem lines_R {s : Nat} (x : Int32) : ∀ c K M i p np nd nc q ln, s < p + c → Rl s i p np nd nc q ln K M → ln ≤ p → (∃ k' K' M', cLoop x ln K 0 k' K' ∧ rAt 7 yX11_text cX11_text (some .int) 55 [some (.ref 347), some (.int x), some (.int (nI ln))] [] M (some (.int (-1))) M' ∧ jF K' M' ∧ jB K' ∧ LF M M') ∨ ∃ k' K' M' i' p' np' nd' nc' q' ln', cLoop x ln K 1 k' K' ∧ rLoop x ln M ln' M' ∧ Rl s i' p' np' nd' nc' q' ln' K' M' ∧ LF M M' := by
  intro c
  induction c with
  | zero => intro K M i p np nd nc q ln hc h hk; have := h.1.2.1; have := h.1.2.2.1; omega
  | succ c ih =>
  intro K M i p np nd nc q ln hc h hk
  have gt := h.1
  have hs7 := gt.1
  have hi := gt.2.1
  have hpi := gt.2.2.1
  have m6 : M 347 6 = nI s := gt.2.2.2.2.2.2.2.1
  rcases gt.tk.end_ with ⟨y1, y2⟩ | ⟨y1, y2⟩
  · refine Or.inr ⟨ln, K, M, i, p, np, nd, nc, q, ln, ?_, ?_, h, LF.rf M⟩
    · intro E ex t I J P n Q hn ht hE hq cont
      by_cases h7 : ln < 700
      · refine r_iload_n dX10_text_32 rfl ?_
        refine r_sipush (v := 700) dX10_text_33 (by decide) ?_
        refine r_ic_ge 67 dX10_text_36 (by decide) (fun c36 => ?_) (fun c36 => ?_)
        · exact absurd c36 (nI_ge (a := ln) (b := 700) (by omega) (by decide))
        · refine r_iload_n dX10_text_39 rfl ?_
          refine r_if_eq 67 dX10_text_40 (by decide) (fun c40 => ?_) (fun c40 => ?_)
          · exact absurd c40 (by decide)
          · refine r_aload_n dX10_text_43 rfl ?_
            refine r_getR dX10_text_44 flX10_22 sh_0 (by decide) rfl (pf_0_4 hq.1) ?_
            refine r_cV0i dX10_text_47 vlX10_97 sh_2 (Nat.le_of_ble_eq_true rfl) (hm_f y1 E ex t I J P n (by omega) ht hE hq) ?_
            refine r_if_eq 67 dX10_text_50 (by decide) (fun c50 => ?_) (fun c50 => ?_)
            · exact cont P (Pk.rf P) hq
            · exact absurd c50 (by decide)
      · refine r_iload_n dX10_text_32 rfl ?_
        refine r_sipush (v := 700) dX10_text_33 (by decide) ?_
        refine r_ic_ge 67 dX10_text_36 (by decide) (fun c36 => ?_) (fun c36 => ?_)
        · exact cont P (Pk.rf P) hq
        · exact absurd (nI_le (a := 700) (b := ln) (by omega) (by omega)) c36
    · intro E ex I J P n Q hn hP cont
      refine r_aload_n dX11_text_55 rfl ?_
      refine r_getIv dX11_text_56 flX11_211 sh_347 (by decide) rfl (uR_r (by decide) _) ?_
      refine r_if_eq 77 dX11_text_59 (by decide) (fun c59 => ?_) (fun c59 => ?_)
      · exact cont
      · exact absurd y2 c59
  have hp1 := gt.2.2.2.1 y1
  obtain ⟨r, K1, r', M1, g1, g2, rfl, g3, g4, g5, g6⟩ := line_R h
  rcases g6 with rfl | ⟨rfl, i1, p1, np1, nd1, nc1, q1, z1, z2⟩
  · refine Or.inl ⟨ln + 1, K1, M1, ?_, ?_, g4, g5, g3⟩
    · intro E ex t I J P n Q hn ht hE hq cont
      obtain ⟨P', hP', hx⟩ := g1 E ex t I J P n hn ht hE hq
      have hPk : Pk P P' := by
        rcases hP' with rfl | rfl
        · exact Pk.rf _
        · exact fun a k z => xu_ne z
      have hq' : Aq false t P' := by
        rcases hP' with rfl | rfl
        · exact hq
        · exact hq.t.f
      refine r_iload_n dX10_text_32 rfl ?_
      refine r_sipush (v := 700) dX10_text_33 (by decide) ?_
      refine r_ic_ge 67 dX10_text_36 (by decide) (fun c36 => ?_) (fun c36 => ?_)
      · exact absurd c36 (nI_ge (a := ln) (b := 700) (by omega) (by decide))
      · refine r_iload_n dX10_text_39 rfl ?_
        refine r_if_eq 67 dX10_text_40 (by decide) (fun c40 => ?_) (fun c40 => ?_)
        · exact absurd c40 (by decide)
        · refine r_aload_n dX10_text_43 rfl ?_
          refine r_getR dX10_text_44 flX10_22 sh_0 (by decide) rfl (pf_0_4 hq.1) ?_
          refine r_cV0i dX10_text_47 vlX10_97 sh_2 (Nat.le_of_ble_eq_true rfl) (hm_t y1 E ex t I J P n (by omega) ht hE hq) ?_
          refine r_if_eq 67 dX10_text_50 (by decide) (fun c50 => ?_) (fun c50 => ?_)
          · exact absurd c50 (by decide)
          · refine r_aload_n dX10_text_53 rfl ?_
            refine r_getR dX10_text_54 flX10_22 sh_0 (by decide) rfl (pf_0_4 hq.1) ?_
            refine r_cV0i dX10_text_57 vlX10_101 sh_2 (Nat.le_of_ble_eq_true rfl) (hx) ?_
            refine r_istore_n2 dX10_text_60 rfl ?_
            refine r_iinc3 (v := 1) dX10_text_61 (by decide) rfl ?_
            rw [nI_1]
            refine r_goto 32 dX10_text_64 (by decide) ?_
            refine r_iload_n dX10_text_32 rfl ?_
            refine r_sipush (v := 700) dX10_text_33 (by decide) ?_
            refine r_ic_ge 67 dX10_text_36 (by decide) (fun c36 => ?_) (fun c36 => ?_)
            · exact cont P' hPk hq'
            · refine r_iload_n dX10_text_39 rfl ?_
              refine r_if_eq 67 dX10_text_40 (by decide) (fun c40 => ?_) (fun c40 => ?_)
              · exact cont P' hPk hq'
              · exact absurd c40 (by decide)
    · intro E ex I J P n hn hP
      refine r_aload_n dX11_text_55 rfl ?_
      refine r_getIv dX11_text_56 flX11_211 sh_347 (by decide) rfl (uR_r (by decide) _) ?_
      refine r_if_eq 77 dX11_text_59 (by decide) (fun c59 => ?_) (fun c59 => ?_)
      · exact absurd c59 y2
      · refine r_aload_n dX11_text_62 rfl ?_
        refine r_cV0i dX11_text_63 vlX11_321 sh_347 (Nat.le_of_ble_eq_true rfl) (g2 E ex I J P n hn hP) ?_
        refine r_if_ne 71 dX11_text_66 (by decide) (fun c66 => ?_) (fun c66 => ?_)
        · exact absurd c66 (by decide)
        · refine r_iconst (v := (-1)) dX11_text_69 (by decide) ?_
          exact r_iret dX11_text_70 rfl rfl rfl rfl
  have key := ih K1 M1 i1 p1 np1 nd1 nc1 q1 (ln + 1) (by omega) z2 (by omega)
  have cstep : ∀ {v : Int32} {k' : Nat} {K' : Nat → Nat → Int32}, cLoop x (ln + 1) K1 v k' K' → cLoop x ln K v k' K' := by
    intro v k' K' hcl E ex t I J P n Q hn ht hE hq cont
    obtain ⟨P', hP', hx⟩ := g1 E ex t I J P n hn ht hE hq
    have hPk : Pk P P' := by
      rcases hP' with rfl | rfl
      · exact Pk.rf _
      · exact fun a k z => xu_ne z
    have hq' : Aq false t P' := by
      rcases hP' with rfl | rfl
      · exact hq
      · exact hq.t.f
    have nxt := hcl E ex t I J P' n Q hn ht hE hq' (fun P2 h2 h3 => cont P2 (hPk.tr h2) h3)
    refine r_iload_n dX10_text_32 rfl ?_
    refine r_sipush (v := 700) dX10_text_33 (by decide) ?_
    refine r_ic_ge 67 dX10_text_36 (by decide) (fun c36 => ?_) (fun c36 => ?_)
    · exact absurd c36 (nI_ge (a := ln) (b := 700) (by omega) (by decide))
    · refine r_iload_n dX10_text_39 rfl ?_
      refine r_if_eq 67 dX10_text_40 (by decide) (fun c40 => ?_) (fun c40 => ?_)
      · exact absurd c40 (by decide)
      · refine r_aload_n dX10_text_43 rfl ?_
        refine r_getR dX10_text_44 flX10_22 sh_0 (by decide) rfl (pf_0_4 hq.1) ?_
        refine r_cV0i dX10_text_47 vlX10_97 sh_2 (Nat.le_of_ble_eq_true rfl) (hm_t y1 E ex t I J P n (by omega) ht hE hq) ?_
        refine r_if_eq 67 dX10_text_50 (by decide) (fun c50 => ?_) (fun c50 => ?_)
        · exact absurd c50 (by decide)
        · refine r_aload_n dX10_text_53 rfl ?_
          refine r_getR dX10_text_54 flX10_22 sh_0 (by decide) rfl (pf_0_4 hq.1) ?_
          refine r_cV0i dX10_text_57 vlX10_101 sh_2 (Nat.le_of_ble_eq_true rfl) (hx) ?_
          refine r_istore_n2 dX10_text_60 rfl ?_
          refine r_iinc3 (v := 1) dX10_text_61 (by decide) rfl ?_
          rw [nI_1]
          refine r_goto 32 dX10_text_64 (by decide) ?_
          exact nxt
  rcases key with ⟨k', K', M', w1, w2, w3, w4, w5⟩ | ⟨k', K', M', i', p', np', nd', nc', q', ln', w1, w2, w3, w4⟩
  · refine Or.inl ⟨k', K', M', cstep w1, ?_, w3, w4, g3.tr w5⟩
    intro E ex I J P n hn hP
    refine r_aload_n dX11_text_55 rfl ?_
    refine r_getIv dX11_text_56 flX11_211 sh_347 (by decide) rfl (uR_r (by decide) _) ?_
    refine r_if_eq 77 dX11_text_59 (by decide) (fun c59 => ?_) (fun c59 => ?_)
    · exact absurd c59 y2
    · refine r_aload_n dX11_text_62 rfl ?_
      refine r_cV0i dX11_text_63 vlX11_321 sh_347 (Nat.le_of_ble_eq_true rfl) (g2 E ex I J P n hn hP) ?_
      refine r_if_ne 71 dX11_text_66 (by decide) (fun c66 => ?_) (fun c66 => ?_)
      · refine r_iinc2 (v := 1) dX11_text_71 (by decide) rfl ?_
        rw [nI_1]
        refine r_goto 55 dX11_text_74 (by decide) ?_
        exact w2 E ex I J P n hn hP
      · exact absurd c66 (by decide)
  · refine Or.inr ⟨k', K', M', i', p', np', nd', nc', q', ln', cstep w1, ?_, w3, g3.tr w4⟩
    intro E ex I J P n Q hn hP cont
    refine r_aload_n dX11_text_55 rfl ?_
    refine r_getIv dX11_text_56 flX11_211 sh_347 (by decide) rfl (uR_r (by decide) _) ?_
    refine r_if_eq 77 dX11_text_59 (by decide) (fun c59 => ?_) (fun c59 => ?_)
    · exact absurd c59 y2
    · refine r_aload_n dX11_text_62 rfl ?_
      refine r_cV0i dX11_text_63 vlX11_321 sh_347 (Nat.le_of_ble_eq_true rfl) (g2 E ex I J P n hn hP) ?_
      refine r_if_ne 71 dX11_text_66 (by decide) (fun c66 => ?_) (fun c66 => ?_)
      · refine r_iinc2 (v := 1) dX11_text_71 (by decide) rfl ?_
        rw [nI_1]
        refine r_goto 55 dX11_text_74 (by decide) ?_
        exact w2 E ex I J P n Q hn hP cont
      · exact absurd c66 (by decide)
theorem start_R {s : Nat} {K M : Nat → Nat → Int32} (hs : s ≤ 700) (hb : jB K) (htb : tbR (K 1) (M 348) s) (hw : rRow (M 349) 0 rWords) : ∃ K3 M1 M2 i p, (∀ (E : xCl) (ex : Bool) (t : Nat) (I : Nat → Nat → Int32) (J : Nat → Nat → Int64) (P : Nat → Nat → Nat) (n : Nat), 5 ≤ n → t ∈ TL → EW E → Aq false t P → xEx E ex n yX7_begin [.ref 2, .int (nI s)] (SH, uC t K I, J, P) none (SH, uC t K3 I, J, xu P 16 0 (t + 1))) ∧ rRun 1 yX11_plain [.ref 347] (xu (xu (xu (xu (xu (xu M 347 2 0) 347 6 (nI s)) 347 1 0) 347 4 0) 347 5 (-1)) 347 7 0) none M1 ∧ rRun 2 yX11_token [.ref 347] M1 none M2 ∧ Rl s i p 0 0 0 0 0 K3 M2 ∧ LF (xu (xu M 347 2 0) 347 1 0) M2 := by
  obtain ⟨K1, a1, ⟨v1, v2, v3, v4, v5, v6, v7, v8, v9⟩, a2⟩ := tcl_c (xu (xu K 2 4 0) 2 5 (-1))
  obtain ⟨b1, b2, b3⟩ := bcl_v K1
  obtain ⟨M1, c1, ⟨w1, w2, w3, w4, w5, w6, w7, w8, w9, w10⟩, c2⟩ := pln_r (xu (xu (xu (xu (xu (xu M 347 2 0) 347 6 (nI s)) 347 1 0) 347 4 0) 347 5 (-1)) 347 7 0)
  have e2 : ∀ a k, ¬ (a = 27 ∨ (a = 16 ∧ 12 ≤ k) ∨ a = 500 ∨ a = 507 ∨ a = 509 ∨ a = 510 ∨ (a = 2 ∧ (k = 4 ∨ k = 5))) → wB K1 16 (sClr (vB K1 16)) a k = K a k := fun a k z => (b3 a k (by omega)).trans ((a2 a k (by omega)).trans ((xu_ne (by omega)).trans (xu_ne (by omega))))
  have k1 : xu (xu (wB K1 16 (sClr (vB K1 16))) 28 1 (nI s)) 28 2 0 1 = K 1 := funext fun k => (xu_ne (by omega)).trans ((xu_ne (by omega)).trans (e2 1 k (by omega)))
  have m348 : M1 348 = M 348 := funext fun k => (c2 348 k (by omega)).trans ((xu_ne (by omega)).trans ((xu_ne (by omega)).trans ((xu_ne (by omega)).trans ((xu_ne (by omega)).trans ((xu_ne (by omega)).trans (xu_ne (by omega)))))))
  have m349 : M1 349 = M 349 := funext fun k => (c2 349 k (by omega)).trans ((xu_ne (by omega)).trans ((xu_ne (by omega)).trans ((xu_ne (by omega)).trans ((xu_ne (by omega)).trans ((xu_ne (by omega)).trans (xu_ne (by omega)))))))
  obtain ⟨i, p, K3, M2, d1, d2, d3, d4, d5⟩ := adv0_R (i := 0) (K := xu (xu (wB K1 16 (sClr (vB K1 16))) 28 1 (nI s)) 28 2 0) (M := M1) hs (by omega) ((xu_ne (by omega)).trans (xu_s _ _ _ _)) (xu_s _ _ _ _) ((c2 347 6 (by omega)).trans ((xu_ne (by omega)).trans ((xu_ne (by omega)).trans ((xu_ne (by omega)).trans ((xu_ne (by omega)).trans (xu_s _ _ _ _)))))) ((c2 347 7 (by omega)).trans (xu_s _ _ _ _)) (by rw [k1, m348]; exact htb) (by rw [m349]; exact hw)
  have f1 : ∀ a k, ¬ a = 28 → K3 a k = wB K1 16 (sClr (vB K1 16)) a k := fun a k z => (d3.1 a k z).trans ((xu_ne (by omega)).trans (xu_ne (by omega)))
  have g1 : ∀ a k, ¬ (a = 347 ∧ 6 ≤ k ∧ k ≤ 10) → M2 a k = M1 a k := fun a k z => d3.2 a k z
  have fb : ∀ a k, ¬ (a = 28 ∨ a = 27 ∨ (a = 16 ∧ 12 ≤ k)) → K3 a k = K1 a k := fun a k z => (f1 a k (by omega)).trans (b3 a k (by omega))
  refine ⟨K3, M1, M2, i, p, beg_c a1 (tbg_c hs d4), c1, d5, ⟨d2, ⟨?_, ?_⟩, ?_, ?_, ?_, ?_, ?_, ?_⟩, ?_⟩
  · rw [fb 2 4 (by omega), a2 2 4 (by omega), xu_ne (by omega), xu_s, g1 347 4 (by omega), c2 347 4 (by omega), xu_ne (by omega), xu_ne (by omega), xu_s]
  · rw [fb 2 5 (by omega), a2 2 5 (by omega), xu_s, g1 347 5 (by omega), c2 347 5 (by omega), xu_ne (by omega), xu_s]
  · exact ⟨by omega, (fb _ _ (by omega)).trans v1, (g1 _ _ (by omega)).trans w1, fun j hj => absurd hj (Nat.not_lt_zero _)⟩
  · exact ⟨by omega, (f1 _ _ (by omega)).trans (b2 13 (by omega) (by omega)), (fb _ _ (by omega)).trans v3, (g1 _ _ (by omega)).trans w2, ⟨0, by decide, (f1 _ _ (by omega)).trans (b2 12 (by omega) (by omega))⟩, fun j hj => absurd hj (Nat.not_lt_zero _), fun j z1 z2 => (g1 _ _ (by omega)).trans (w9 j z2), fun j hj => absurd hj (Nat.not_lt_zero _)⟩
  · exact ⟨by omega, (fb _ _ (by omega)).trans v2, (g1 _ _ (by omega)).trans w3, fun j hj => absurd hj (Nat.not_lt_zero _)⟩
  · refine ⟨(fb _ _ (by omega)).trans v4, ?_, ?_, ?_, ?_, (f1 _ _ (by omega)).trans (b2 15 (by omega) (by omega)), fun k hk => (f1 _ _ (by omega)).trans (b1 k hk)⟩
    · rw [fb 500 11 (by omega), v5, g1 350 0 (by omega), w6]
    · rw [fb 500 12 (by omega), v6, g1 350 1 (by omega), w7]
    · rw [f1 16 14 (by omega), b2 14 (by omega) (by omega), g1 351 2 (by omega), w8]
    · rw [f1 16 14 (by omega), b2 14 (by omega) (by omega)]; exact ⟨0, by omega, by omega, rfl⟩
  · exact ⟨by omega, (fb _ _ (by omega)).trans v8, (fb _ _ (by omega)).trans v7, (g1 _ _ (by omega)).trans w4, (g1 _ _ (by omega)).trans w5, fun l hl => Or.inl ⟨(fb _ _ (by omega)).trans (v9 l hl), (g1 _ _ (by omega)).trans (w10 l hl)⟩⟩
  · refine hb.c (fun a k z => (fb a k (by omega)).trans ((a2 a k (by omega)).trans ((xu_ne (by omega)).trans (xu_ne (by omega)))))
  · refine LF.of fun a k z => (g1 a k (by omega)).trans ((c2 a k (by omega)).trans ?_)
    rw [xu_ne (by omega), xu_ne (by omega), xu_ne (by omega)]
    by_cases e1 : a = 347 ∧ k = 1
    · rw [e1.1, e1.2, xu_s, xu_s]
    · rw [xu_ne e1, xu_ne (by omega), xu_ne e1]
