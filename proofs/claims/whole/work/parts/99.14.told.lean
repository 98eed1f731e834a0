/-! people and strands that a line names -/
theorem sPn_c (f : Nat → Int32) (x : Int32) : ∀ c j, sPn f x c j = -1 ∨ ∃ k, j ≤ k ∧ k < j + c ∧ sPn f x c j = nI k
  | 0, j => Or.inl rfl
  | c + 1, j => by
    by_cases h : f j = x
    · exact Or.inr ⟨j, by omega, by omega, by rw [sPn, if_pos h]⟩
    · rw [sPn, if_neg h]
      rcases sPn_c f x c (j + 1) with z | ⟨k, z1, z2, z3⟩
      · exact Or.inl z
      · exact Or.inr ⟨k, by omega, by omega, z3⟩
theorem sPn_r {f g : Nat → Int32} {x : Int32} : ∀ c j, (∀ k, j ≤ k → k < j + c → f k = g k) → sPn f x c j = rFd g x c j
  | 0, j, _ => rfl
  | c + 1, j, h => by rw [sPn, rFd, h j (by omega) (by omega), sPn_r c (j + 1) (fun k h1 h2 => h k (by omega) (by omega))]
theorem pnm_c {K : Nat → Nat → Int32} {np : Nat} (hn : np ≤ 6) (hp : K 500 3 = nI np) {x v : Int32} (hx : sPn (K 501) x np 0 = v) : cRun false 1 yX6_personNamed (fun t => [.ref t, .int x]) K (some (.int v)) K := by
  intro E ex t I J P n hn1 ht hE hq
  have z := k_personNamed (E := E) (ex := ex) (I := uC t K I) (J := J) (P := P) hq.1 ht hn ((uC_t0 3).trans hp) x 0
  rw [show uC t K I (t + 1) = K 501 from funext fun q => uC_tb (j := 1) (by decide) (by decide) q, hx] at z
  exact x_le hn1 z
theorem find_r {M : Nat → Nat → Int32} {np : Nat} (hn : np ≤ 6) {x v : Int32} (hx : rFd (fun k => M 352 (6 + k)) x np 0 = v) : rRun 1 yX11_find [.ref 352, .int 6, .int (nI np), .int x] M (some (.int v)) M := by
  intro E ex I J P n hn1 hP
  have z := k_find (E := E) (ex := ex) (I := uR M I) (J := J) (P := P) (fr := 6) (q := np) (by omega) x 0
  rw [show (fun k => uR M I 352 (6 + k)) = (fun k => M 352 (6 + k)) from funext fun q => uR_r (by decide) _, hx] at z
  exact x_le hn1 z
theorem isS_t {K : Nat → Nat → Int32} {v : Int32} (h : sSt (vB K 16) v) : cRun false 1 yX0_isStrand (fun _ => [.ref 16, .int v]) K (some (.int 1)) K := by
  intro E ex t I J P n hn1 ht hE hq
  have z := k_isStrand_t (E := E) (ex := ex) (I := uC t K I) (V := vB (uC t K I) 16) (J := J) (P := P) hb16 (i := v) (by rw [vB_uC ht]; exact h) 0
  rw [wB_vB] at z
  exact x_le hn1 z
theorem isS_f {K : Nat → Nat → Int32} {v : Int32} (h : ¬ sSt (vB K 16) v) : cRun false 1 yX0_isStrand (fun _ => [.ref 16, .int v]) K (some (.int 0)) K := by
  intro E ex t I J P n hn1 ht hE hq
  have z := k_isStrand_f (E := E) (ex := ex) (I := uC t K I) (V := vB (uC t K I) 16) (J := J) (P := P) hb16 (i := v) (by rw [vB_uC ht]; exact h) 0
  rw [wB_vB] at z
  exact x_le hn1 z
set_option maxHeartbeats 1000000 in
theorem told_1 {K : Nat → Nat → Int32} (h : ¬ K 28 4 = 37) : cRun false 2 yX7_toldPerson (fun _ => [.ref 2]) K (some (.int 0)) (fC K 1) := by
  refine cAt.run (h := 1) cqX7_toldPerson (ls := [some (.ref 2)]) rfl (by simp [lg_sl, Value.category]) ?_
  intro E ex t I J P n hn ht hE hq
  refine r_aload_n dX7_toldPerson_0 rfl ?_
  refine r_getR dX7_toldPerson_1 flX7_32 sh_2 (by decide) rfl (pf_2_0 hq.1) ?_
  refine r_getIv dX7_toldPerson_4 flX7_61 sh_28 (by decide) rfl (uC_c ht (by decide) _) ?_
  refine r_bipush (v := 37) dX7_toldPerson_7 (by decide) ?_
  refine r_ic_eq 18 dX7_toldPerson_9 (by decide) (fun c9 => ?_) (fun c9 => ?_)
  · exact absurd c9 h
  · refine r_aload_n dX7_toldPerson_12 rfl ?_
    refine r_iconst (v := 1) dX7_toldPerson_13 (by decide) ?_
    refine r_cV1i dX7_toldPerson_14 vlX7_86 sh_2 (Nat.le_of_ble_eq_true rfl) (fail_c 1 E ex t I J P n (by omega) ht hE hq) ?_
    exact r_iret dX7_toldPerson_17 rfl rfl rfl rfl
set_option maxHeartbeats 1000000 in
theorem told_4 {K : Nat → Nat → Int32} {np : Nat} (h : K 28 4 = 37) (hn0 : np ≤ 6) (hp : K 500 3 = nI np) (hx : sPn (K 501) (K 28 5) np 0 = -1) : cRun false 2 yX7_toldPerson (fun _ => [.ref 2]) K (some (.int 0)) (fC (xu K 2 6 (-1)) 4) := by
  refine cAt.run (h := 1) cqX7_toldPerson (ls := [some (.ref 2)]) rfl (by simp [lg_sl, Value.category]) ?_
  intro E ex t I J P n hn ht hE hq
  refine r_aload_n dX7_toldPerson_0 rfl ?_
  refine r_getR dX7_toldPerson_1 flX7_32 sh_2 (by decide) rfl (pf_2_0 hq.1) ?_
  refine r_getIv dX7_toldPerson_4 flX7_61 sh_28 (by decide) rfl (uC_c ht (by decide) _) ?_
  refine r_bipush (v := 37) dX7_toldPerson_7 (by decide) ?_
  refine r_ic_eq 18 dX7_toldPerson_9 (by decide) (fun c9 => ?_) (fun c9 => ?_)
  · refine r_aload_n dX7_toldPerson_18 rfl ?_
    refine r_aload_n dX7_toldPerson_19 rfl ?_
    refine r_getR dX7_toldPerson_20 flX7_12 sh_2 (by decide) rfl hq.2.1 ?_
    refine r_aload_n dX7_toldPerson_23 rfl ?_
    refine r_getR dX7_toldPerson_24 flX7_32 sh_2 (by decide) rfl (pf_2_0 hq.1) ?_
    refine r_getIv dX7_toldPerson_27 flX7_102 sh_28 (by decide) rfl (uC_c ht (by decide) _) ?_
    refine r_cV1i dX7_toldPerson_30 vlX7_115 (tl_s _ ht) (Nat.le_of_ble_eq_true rfl) (pnm_c hn0 hp hx E ex t I J P n (by omega) ht hE hq) ?_
    refine r_putIv dX7_toldPerson_33 flX7_105 ⟨_, _, _, rfl, Or.inl rfl⟩ sh_2 (by decide) rfl rfl rfl (uC_xc ht (by decide) _ _) ?_
    refine r_aload_n dX7_toldPerson_36 rfl ?_
    refine r_getIv dX7_toldPerson_37 flX7_105 sh_2 (by decide) rfl (uC_cv ht (by decide) (xu_s _ _ _ _)) ?_
    refine r_iconst (v := (-1)) dX7_toldPerson_40 (by decide) ?_
    refine r_ic_ne 52 dX7_toldPerson_41 (by decide) (fun c41 => ?_) (fun c41 => ?_)
    · exact absurd rfl c41
    · refine r_aload_n dX7_toldPerson_44 rfl ?_
      refine r_iconst (v := 4) dX7_toldPerson_45 (by decide) ?_
      refine r_cV1i dX7_toldPerson_46 vlX7_86 sh_2 (Nat.le_of_ble_eq_true rfl) (fail_c 4 E ex t I J P n (by omega) ht hE hq) ?_
      refine r_if_eq 56 dX7_toldPerson_49 (by decide) (fun c49 => ?_) (fun c49 => ?_)
      · refine r_iconst (v := 0) dX7_toldPerson_56 (by decide) ?_
        exact r_iret dX7_toldPerson_57 rfl rfl rfl rfl
      · exact absurd c49 (by decide)
  · exact absurd h c9
set_option maxHeartbeats 1000000 in
theorem told_t {K : Nat → Nat → Int32} {np j : Nat} (h : K 28 4 = 37) (hn0 : np ≤ 6) (hp : K 500 3 = nI np) (hx : sPn (K 501) (K 28 5) np 0 = nI j) (hj : j < np) : cRun false 2 yX7_toldPerson (fun _ => [.ref 2]) K (some (.int 1)) (xu K 2 6 (nI j)) := by
  refine cAt.run (h := 1) cqX7_toldPerson (ls := [some (.ref 2)]) rfl (by simp [lg_sl, Value.category]) ?_
  intro E ex t I J P n hn ht hE hq
  refine r_aload_n dX7_toldPerson_0 rfl ?_
  refine r_getR dX7_toldPerson_1 flX7_32 sh_2 (by decide) rfl (pf_2_0 hq.1) ?_
  refine r_getIv dX7_toldPerson_4 flX7_61 sh_28 (by decide) rfl (uC_c ht (by decide) _) ?_
  refine r_bipush (v := 37) dX7_toldPerson_7 (by decide) ?_
  refine r_ic_eq 18 dX7_toldPerson_9 (by decide) (fun c9 => ?_) (fun c9 => ?_)
  · refine r_aload_n dX7_toldPerson_18 rfl ?_
    refine r_aload_n dX7_toldPerson_19 rfl ?_
    refine r_getR dX7_toldPerson_20 flX7_12 sh_2 (by decide) rfl hq.2.1 ?_
    refine r_aload_n dX7_toldPerson_23 rfl ?_
    refine r_getR dX7_toldPerson_24 flX7_32 sh_2 (by decide) rfl (pf_2_0 hq.1) ?_
    refine r_getIv dX7_toldPerson_27 flX7_102 sh_28 (by decide) rfl (uC_c ht (by decide) _) ?_
    refine r_cV1i dX7_toldPerson_30 vlX7_115 (tl_s _ ht) (Nat.le_of_ble_eq_true rfl) (pnm_c hn0 hp hx E ex t I J P n (by omega) ht hE hq) ?_
    refine r_putIv dX7_toldPerson_33 flX7_105 ⟨_, _, _, rfl, Or.inl rfl⟩ sh_2 (by decide) rfl rfl rfl (uC_xc ht (by decide) _ _) ?_
    refine r_aload_n dX7_toldPerson_36 rfl ?_
    refine r_getIv dX7_toldPerson_37 flX7_105 sh_2 (by decide) rfl (uC_cv ht (by decide) (xu_s _ _ _ _)) ?_
    refine r_iconst (v := (-1)) dX7_toldPerson_40 (by decide) ?_
    refine r_ic_ne 52 dX7_toldPerson_41 (by decide) (fun c41 => ?_) (fun c41 => ?_)
    · refine r_iconst (v := 1) dX7_toldPerson_52 (by decide) ?_
      refine r_goto 57 dX7_toldPerson_53 (by decide) ?_
      exact r_iret dX7_toldPerson_57 rfl rfl rfl rfl
    · exact absurd c41 (nI_nm1 (by omega))
  · exact absurd h c9
set_option maxHeartbeats 1000000 in
theorem pread_1 {M : Nat → Nat → Int32} (h : ¬ M 347 8 = 2) : rRun 2 yX11_personRead [.ref 347] M (some (.int 0)) (fR M 1) := by
  refine rAt.run (h := 1) cqX11_personRead (ls := [some (.ref 347), none]) rfl (by simp [lg_sl, Value.category]) ?_
  intro E ex I J P n hn hP
  refine r_aload_n dX11_personRead_0 rfl ?_
  refine r_getIv dX11_personRead_1 flX11_211 sh_347 (by decide) rfl (uR_r (by decide) _) ?_
  refine r_iconst (v := 2) dX11_personRead_4 (by decide) ?_
  refine r_ic_eq 14 dX11_personRead_5 (by decide) (fun c5 => ?_) (fun c5 => ?_)
  · exact absurd c5 h
  · refine r_aload_n dX11_personRead_8 rfl ?_
    refine r_iconst (v := 1) dX11_personRead_9 (by decide) ?_
    refine r_cV1i dX11_personRead_10 vlX11_235 sh_347 (Nat.le_of_ble_eq_true rfl) (wrong_r 1 E ex I J P n (by omega) hP) ?_
    exact r_iret dX11_personRead_13 rfl rfl rfl rfl
set_option maxHeartbeats 1000000 in
theorem pread_4 {M : Nat → Nat → Int32} {np : Nat} (h : M 347 8 = 2) (hn0 : np ≤ 6) (hp : M 347 16 = nI np) (hx : rFd (fun k => M 352 (6 + k)) (M 347 9) np 0 = -1) : rRun 2 yX11_personRead [.ref 347] M (some (.int 0)) (fR M 4) := by
  refine rAt.run (h := 1) cqX11_personRead (ls := [some (.ref 347), none]) rfl (by simp [lg_sl, Value.category]) ?_
  intro E ex I J P n hn hP
  refine r_aload_n dX11_personRead_0 rfl ?_
  refine r_getIv dX11_personRead_1 flX11_211 sh_347 (by decide) rfl (uR_r (by decide) _) ?_
  refine r_iconst (v := 2) dX11_personRead_4 (by decide) ?_
  refine r_ic_eq 14 dX11_personRead_5 (by decide) (fun c5 => ?_) (fun c5 => ?_)
  · refine r_aload_n dX11_personRead_14 rfl ?_
    refine r_getR dX11_personRead_15 flX11_27 sh_347 (by decide) rfl (pf_347_22 hP) ?_
    refine r_bipush (v := 6) dX11_personRead_18 (by decide) ?_
    refine r_aload_n dX11_personRead_20 rfl ?_
    refine r_getIv dX11_personRead_21 flX11_255 sh_347 (by decide) rfl (uR_v (by decide) hp) ?_
    refine r_aload_n dX11_personRead_24 rfl ?_
    refine r_getIv dX11_personRead_25 flX11_222 sh_347 (by decide) rfl (uR_r (by decide) _) ?_
    refine r_cS4i dX11_personRead_28 slX11_289 (Nat.le_of_ble_eq_true rfl) (find_r hn0 hx E ex I J P n (by omega) hP) ?_
    refine r_istore_n1 dX11_personRead_31 rfl ?_
    refine r_iload_n dX11_personRead_32 rfl ?_
    refine r_if_ge 42 dX11_personRead_33 (by decide) (fun c33 => ?_) (fun c33 => ?_)
    · exact absurd c33 (by decide)
    · refine r_aload_n dX11_personRead_36 rfl ?_
      refine r_iconst (v := 4) dX11_personRead_37 (by decide) ?_
      refine r_cV1i dX11_personRead_38 vlX11_235 sh_347 (Nat.le_of_ble_eq_true rfl) (wrong_r 4 E ex I J P n (by omega) hP) ?_
      exact r_iret dX11_personRead_41 rfl rfl rfl rfl
  · exact absurd h c5
set_option maxHeartbeats 1000000 in
theorem pread_t {M : Nat → Nat → Int32} {M' : Nat → Nat → Int32} {np j : Nat} (h : M 347 8 = 2) (hn0 : np ≤ 6) (hp : M 347 16 = nI np) (hx : rFd (fun k => M 352 (6 + k)) (M 347 9) np 0 = nI j) (hj : j < np) (z : rRun 2 yX11_token [.ref 347] M none M') : rRun 3 yX11_personRead [.ref 347] M (some (.int 1)) (xu M' 347 11 (nI j)) := by
  refine rAt.run (h := 2) cqX11_personRead (ls := [some (.ref 347), none]) rfl (by simp [lg_sl, Value.category]) ?_
  intro E ex I J P n hn hP
  refine r_aload_n dX11_personRead_0 rfl ?_
  refine r_getIv dX11_personRead_1 flX11_211 sh_347 (by decide) rfl (uR_r (by decide) _) ?_
  refine r_iconst (v := 2) dX11_personRead_4 (by decide) ?_
  refine r_ic_eq 14 dX11_personRead_5 (by decide) (fun c5 => ?_) (fun c5 => ?_)
  · refine r_aload_n dX11_personRead_14 rfl ?_
    refine r_getR dX11_personRead_15 flX11_27 sh_347 (by decide) rfl (pf_347_22 hP) ?_
    refine r_bipush (v := 6) dX11_personRead_18 (by decide) ?_
    refine r_aload_n dX11_personRead_20 rfl ?_
    refine r_getIv dX11_personRead_21 flX11_255 sh_347 (by decide) rfl (uR_v (by decide) hp) ?_
    refine r_aload_n dX11_personRead_24 rfl ?_
    refine r_getIv dX11_personRead_25 flX11_222 sh_347 (by decide) rfl (uR_r (by decide) _) ?_
    refine r_cS4i dX11_personRead_28 slX11_289 (Nat.le_of_ble_eq_true rfl) (find_r hn0 hx E ex I J P n (by omega) hP) ?_
    refine r_istore_n1 dX11_personRead_31 rfl ?_
    refine r_iload_n dX11_personRead_32 rfl ?_
    refine r_if_ge 42 dX11_personRead_33 (by decide) (fun c33 => ?_) (fun c33 => ?_)
    · refine r_aload_n dX11_personRead_42 rfl ?_
      refine r_cV0v dX11_personRead_43 vlX11_245 sh_347 (Nat.le_of_ble_eq_true rfl) (z E ex I J P n (by omega) hP) ?_
      refine r_aload_n dX11_personRead_46 rfl ?_
      refine r_iload_n dX11_personRead_47 rfl ?_
      refine r_putIv dX11_personRead_48 flX11_242 ⟨_, _, _, rfl, Or.inl rfl⟩ sh_347 (by decide) rfl rfl rfl (uR_x (by decide) _ _) ?_
      refine r_iconst (v := 1) dX11_personRead_51 (by decide) ?_
      exact r_iret dX11_personRead_52 rfl rfl rfl rfl
    · exact absurd (nI_pos' (by omega)) c33
  · exact absurd h c5
theorem per_R {s i p np : Nat} {K M : Nat → Nat → Int32} (h : jT s i p K M) (g : jP np K M) (hF : jF K M) : (∃ K' M', cRun false 2 yX7_toldPerson (fun _ => [.ref 2]) K (some (.int 0)) K' ∧ rRun 3 yX11_personRead [.ref 347] M (some (.int 0)) M' ∧ jF K' M' ∧ agN K K' M M') ∨ ∃ j i' p' K2 M2, j < np ∧ i ≤ p' ∧ cRun false 2 yX7_toldPerson (fun _ => [.ref 2]) K (some (.int 1)) (xu K 2 6 (nI j)) ∧ cRun false 3 yX8_advance (fun _ => [.ref 28]) (xu K 2 6 (nI j)) none K2 ∧ rRun 3 yX11_personRead [.ref 347] M (some (.int 1)) M2 ∧ jT s i' p' K2 M2 ∧ agS K K2 M M2 ∧ K2 2 6 = nI j ∧ M2 347 11 = nI j := by
  have h0 := g.1
  rcases h.tk.name with ⟨a1, a2, a3⟩ | ⟨a1, a2⟩
  · have e := sPn_r (f := K 501) (g := fun k => M 352 (6 + k)) (x := K 28 5) np 0 (fun k z1 z2 => (g.2.2.2 k (by omega)).1)
    rcases sPn_c (K 501) (K 28 5) np 0 with b | ⟨j, b1, b2, b3⟩
    · have t1 : jT s i p (xu K 2 6 (-1)) M := h.c (fun a k z => xu_ne (by omega)) (fun a k z => rfl)
      refine Or.inl ⟨_, _, told_4 a1 g.1 g.2.1 b, fun E ex I J P n hn => pread_4 a2 g.1 g.2.2.1 (by rw [← a3, ← e]; exact b) E ex I J P n (by omega), bad_F t1 4, ⟨fun a k z => ((bad_N _ M 4).1 a k z).trans (xu_ne (by omega)), (bad_N K M 4).2⟩⟩
    · have t1 : jT s i p (xu K 2 6 (nI j)) M := h.c (fun a k z => xu_ne (by omega)) (fun a k z => rfl)
      obtain ⟨i', p', K2, M1, c1, c2, c3, c4, c5⟩ := adv_R t1
      refine Or.inr ⟨j, i', p', K2, xu M1 347 11 (nI j), by omega, c1, told_t a1 g.1 g.2.1 b3 (by omega), c4, pread_t a2 g.1 g.2.2.1 (by rw [← a3, ← e]; exact b3) (by omega) c5, c2.c (fun a k z => rfl) (fun a k z => xu_ne (by omega)), ⟨fun a k z => (c3.1 a k (by omega)).trans (xu_ne (by omega)), fun a k z => (xu_ne (by omega)).trans (c3.2 a k (by omega))⟩, (c3.1 2 6 (by decide)).trans (xu_s _ _ _ _), xu_s _ _ _ _⟩
  · exact Or.inl ⟨_, _, told_1 a1, fun E ex I J P n hn => pread_1 a2 E ex I J P n (by omega), bad_F h 1, bad_N K M 1⟩
set_option maxHeartbeats 1000000 in
theorem free_1 {K : Nat → Nat → Int32} {a : Int32} (h : ¬ K 28 4 = 36) : cRun false 2 yX7_freeStrand (fun _ => [.ref 2, .int a]) K (some (.int 0)) (fC K 1) := by
  refine cAt.run (h := 1) cqX7_freeStrand (ls := [some (.ref 2), some (.int a)]) rfl (by simp [lg_sl, Value.category]) ?_
  intro E ex t I J P n hn ht hE hq
  refine r_aload_n dX7_freeStrand_0 rfl ?_
  refine r_getR dX7_freeStrand_1 flX7_32 sh_2 (by decide) rfl (pf_2_0 hq.1) ?_
  refine r_getIv dX7_freeStrand_4 flX7_61 sh_28 (by decide) rfl (uC_c ht (by decide) _) ?_
  refine r_bipush (v := 36) dX7_freeStrand_7 (by decide) ?_
  refine r_ic_eq 18 dX7_freeStrand_9 (by decide) (fun c9 => ?_) (fun c9 => ?_)
  · exact absurd c9 h
  · refine r_aload_n dX7_freeStrand_12 rfl ?_
    refine r_iconst (v := 1) dX7_freeStrand_13 (by decide) ?_
    refine r_cV1i dX7_freeStrand_14 vlX7_86 sh_2 (Nat.le_of_ble_eq_true rfl) (fail_c 1 E ex t I J P n (by omega) ht hE hq) ?_
    exact r_iret dX7_freeStrand_17 rfl rfl rfl rfl
set_option maxHeartbeats 1000000 in
theorem free_4 {K : Nat → Nat → Int32} {a : Int32} (h : K 28 4 = 36) (h2 : ¬ sSt (vB K 16) (K 28 5)) : cRun false 2 yX7_freeStrand (fun _ => [.ref 2, .int a]) K (some (.int 0)) (fC K 4) := by
  refine cAt.run (h := 1) cqX7_freeStrand (ls := [some (.ref 2), some (.int a)]) rfl (by simp [lg_sl, Value.category]) ?_
  intro E ex t I J P n hn ht hE hq
  refine r_aload_n dX7_freeStrand_0 rfl ?_
  refine r_getR dX7_freeStrand_1 flX7_32 sh_2 (by decide) rfl (pf_2_0 hq.1) ?_
  refine r_getIv dX7_freeStrand_4 flX7_61 sh_28 (by decide) rfl (uC_c ht (by decide) _) ?_
  refine r_bipush (v := 36) dX7_freeStrand_7 (by decide) ?_
  refine r_ic_eq 18 dX7_freeStrand_9 (by decide) (fun c9 => ?_) (fun c9 => ?_)
  · refine r_aload_n dX7_freeStrand_18 rfl ?_
    refine r_getR dX7_freeStrand_19 flX7_23 sh_2 (by decide) rfl (pf_2_3 hq.1) ?_
    refine r_aload_n dX7_freeStrand_22 rfl ?_
    refine r_getR dX7_freeStrand_23 flX7_32 sh_2 (by decide) rfl (pf_2_0 hq.1) ?_
    refine r_getIv dX7_freeStrand_26 flX7_102 sh_28 (by decide) rfl (uC_c ht (by decide) _) ?_
    refine r_cV1i dX7_freeStrand_29 vlX7_157 sh_16 (Nat.le_of_ble_eq_true rfl) (isS_f h2 E ex t I J P n (by omega) ht hE hq) ?_
    refine r_if_ne 41 dX7_freeStrand_32 (by decide) (fun c32 => ?_) (fun c32 => ?_)
    · exact absurd c32 (by decide)
    · refine r_aload_n dX7_freeStrand_35 rfl ?_
      refine r_iconst (v := 4) dX7_freeStrand_36 (by decide) ?_
      refine r_cV1i dX7_freeStrand_37 vlX7_86 sh_2 (Nat.le_of_ble_eq_true rfl) (fail_c 4 E ex t I J P n (by omega) ht hE hq) ?_
      exact r_iret dX7_freeStrand_40 rfl rfl rfl rfl
  · exact absurd h c9
set_option maxHeartbeats 1000000 in
theorem free_5 {K : Nat → Nat → Int32} {a : Int32} {x : Nat} (h : K 28 4 = 36) (h2 : sSt (vB K 16) (K 28 5)) (hx : K 28 5 = nI x) (hx2 : x < 12) (h3 : nI x = a ∨ ¬ K 26 x = -1) : cRun false 2 yX7_freeStrand (fun _ => [.ref 2, .int a]) K (some (.int 0)) (fC K 5) := by
  refine cAt.run (h := 1) cqX7_freeStrand (ls := [some (.ref 2), some (.int a)]) rfl (by simp [lg_sl, Value.category]) ?_
  intro E ex t I J P n hn ht hE hq
  refine r_aload_n dX7_freeStrand_0 rfl ?_
  refine r_getR dX7_freeStrand_1 flX7_32 sh_2 (by decide) rfl (pf_2_0 hq.1) ?_
  refine r_getIv dX7_freeStrand_4 flX7_61 sh_28 (by decide) rfl (uC_c ht (by decide) _) ?_
  refine r_bipush (v := 36) dX7_freeStrand_7 (by decide) ?_
  refine r_ic_eq 18 dX7_freeStrand_9 (by decide) (fun c9 => ?_) (fun c9 => ?_)
  · refine r_aload_n dX7_freeStrand_18 rfl ?_
    refine r_getR dX7_freeStrand_19 flX7_23 sh_2 (by decide) rfl (pf_2_3 hq.1) ?_
    refine r_aload_n dX7_freeStrand_22 rfl ?_
    refine r_getR dX7_freeStrand_23 flX7_32 sh_2 (by decide) rfl (pf_2_0 hq.1) ?_
    refine r_getIv dX7_freeStrand_26 flX7_102 sh_28 (by decide) rfl (uC_c ht (by decide) _) ?_
    refine r_cV1i dX7_freeStrand_29 vlX7_157 sh_16 (Nat.le_of_ble_eq_true rfl) (isS_t h2 E ex t I J P n (by omega) ht hE hq) ?_
    refine r_if_ne 41 dX7_freeStrand_32 (by decide) (fun c32 => ?_) (fun c32 => ?_)
    · refine r_aload_n dX7_freeStrand_41 rfl ?_
      refine r_getR dX7_freeStrand_42 flX7_32 sh_2 (by decide) rfl (pf_2_0 hq.1) ?_
      refine r_getIv dX7_freeStrand_45 flX7_102 sh_28 (by decide) rfl (uC_c ht (by decide) _) ?_
      refine r_iload_n dX7_freeStrand_48 rfl ?_
      refine r_ic_eq 71 dX7_freeStrand_49 (by decide) (fun c49 => ?_) (fun c49 => ?_)
      · refine r_aload_n dX7_freeStrand_71 rfl ?_
        refine r_iconst (v := 5) dX7_freeStrand_72 (by decide) ?_
        refine r_cV1i dX7_freeStrand_73 vlX7_86 sh_2 (Nat.le_of_ble_eq_true rfl) (fail_c 5 E ex t I J P n (by omega) ht hE hq) ?_
        exact r_iret dX7_freeStrand_76 rfl rfl rfl rfl
      · refine r_aload_n dX7_freeStrand_52 rfl ?_
        refine r_getR dX7_freeStrand_53 flX7_23 sh_2 (by decide) rfl (pf_2_3 hq.1) ?_
        refine r_getR dX7_freeStrand_56 flX7_160 sh_16 (by decide) rfl (pf_16_10 hq.1) ?_
        refine r_aload_n dX7_freeStrand_59 rfl ?_
        refine r_getR dX7_freeStrand_60 flX7_32 sh_2 (by decide) rfl (pf_2_0 hq.1) ?_
        refine r_getIv dX7_freeStrand_63 flX7_102 sh_28 (by decide) rfl (uC_c ht (by decide) _) ?_
        refine r_ialv dX7_freeStrand_66 sh_26 (by rw [hx]; exact vp_in_nI hx2 (by decide)) ((uC_c ht (by decide) _).trans (congrArg (K 26) (show (K 28 5).toNatClampNeg = x by rw [hx]; exact nI_clamp (by omega)))) ?_
        refine r_iconst (v := (-1)) dX7_freeStrand_67 (by decide) ?_
        refine r_ic_eq 77 dX7_freeStrand_68 (by decide) (fun c68 => ?_) (fun c68 => ?_)
        · exact absurd (h3.resolve_left (fun z => c49 (hx.trans z))) (fun z => z c68)
        · refine r_aload_n dX7_freeStrand_71 rfl ?_
          refine r_iconst (v := 5) dX7_freeStrand_72 (by decide) ?_
          refine r_cV1i dX7_freeStrand_73 vlX7_86 sh_2 (Nat.le_of_ble_eq_true rfl) (fail_c 5 E ex t I J P n (by omega) ht hE hq) ?_
          exact r_iret dX7_freeStrand_76 rfl rfl rfl rfl
    · exact absurd c32 (by decide)
  · exact absurd h c9
set_option maxHeartbeats 1000000 in
theorem free_t {K : Nat → Nat → Int32} {K' : Nat → Nat → Int32} {a : Int32} {x : Nat} (h : K 28 4 = 36) (h2 : sSt (vB K 16) (K 28 5)) (hx : K 28 5 = nI x) (hx2 : x < 12) (h3 : ¬ nI x = a) (h4 : K 26 x = -1) (z : cRun false 3 yX8_advance (fun _ => [.ref 28]) (xu K 2 6 (K 28 5)) none K') : cRun false 4 yX7_freeStrand (fun _ => [.ref 2, .int a]) K (some (.int 1)) K' := by
  refine cAt.run (h := 3) cqX7_freeStrand (ls := [some (.ref 2), some (.int a)]) rfl (by simp [lg_sl, Value.category]) ?_
  intro E ex t I J P n hn ht hE hq
  refine r_aload_n dX7_freeStrand_0 rfl ?_
  refine r_getR dX7_freeStrand_1 flX7_32 sh_2 (by decide) rfl (pf_2_0 hq.1) ?_
  refine r_getIv dX7_freeStrand_4 flX7_61 sh_28 (by decide) rfl (uC_c ht (by decide) _) ?_
  refine r_bipush (v := 36) dX7_freeStrand_7 (by decide) ?_
  refine r_ic_eq 18 dX7_freeStrand_9 (by decide) (fun c9 => ?_) (fun c9 => ?_)
  · refine r_aload_n dX7_freeStrand_18 rfl ?_
    refine r_getR dX7_freeStrand_19 flX7_23 sh_2 (by decide) rfl (pf_2_3 hq.1) ?_
    refine r_aload_n dX7_freeStrand_22 rfl ?_
    refine r_getR dX7_freeStrand_23 flX7_32 sh_2 (by decide) rfl (pf_2_0 hq.1) ?_
    refine r_getIv dX7_freeStrand_26 flX7_102 sh_28 (by decide) rfl (uC_c ht (by decide) _) ?_
    refine r_cV1i dX7_freeStrand_29 vlX7_157 sh_16 (Nat.le_of_ble_eq_true rfl) (isS_t h2 E ex t I J P n (by omega) ht hE hq) ?_
    refine r_if_ne 41 dX7_freeStrand_32 (by decide) (fun c32 => ?_) (fun c32 => ?_)
    · refine r_aload_n dX7_freeStrand_41 rfl ?_
      refine r_getR dX7_freeStrand_42 flX7_32 sh_2 (by decide) rfl (pf_2_0 hq.1) ?_
      refine r_getIv dX7_freeStrand_45 flX7_102 sh_28 (by decide) rfl (uC_c ht (by decide) _) ?_
      refine r_iload_n dX7_freeStrand_48 rfl ?_
      refine r_ic_eq 71 dX7_freeStrand_49 (by decide) (fun c49 => ?_) (fun c49 => ?_)
      · exact absurd (hx.symm.trans c49) h3
      · refine r_aload_n dX7_freeStrand_52 rfl ?_
        refine r_getR dX7_freeStrand_53 flX7_23 sh_2 (by decide) rfl (pf_2_3 hq.1) ?_
        refine r_getR dX7_freeStrand_56 flX7_160 sh_16 (by decide) rfl (pf_16_10 hq.1) ?_
        refine r_aload_n dX7_freeStrand_59 rfl ?_
        refine r_getR dX7_freeStrand_60 flX7_32 sh_2 (by decide) rfl (pf_2_0 hq.1) ?_
        refine r_getIv dX7_freeStrand_63 flX7_102 sh_28 (by decide) rfl (uC_c ht (by decide) _) ?_
        refine r_ialv dX7_freeStrand_66 sh_26 (by rw [hx]; exact vp_in_nI hx2 (by decide)) ((uC_c ht (by decide) _).trans (congrArg (K 26) (show (K 28 5).toNatClampNeg = x by rw [hx]; exact nI_clamp (by omega)))) ?_
        refine r_iconst (v := (-1)) dX7_freeStrand_67 (by decide) ?_
        refine r_ic_eq 77 dX7_freeStrand_68 (by decide) (fun c68 => ?_) (fun c68 => ?_)
        · refine r_aload_n dX7_freeStrand_77 rfl ?_
          refine r_aload_n dX7_freeStrand_78 rfl ?_
          refine r_getR dX7_freeStrand_79 flX7_32 sh_2 (by decide) rfl (pf_2_0 hq.1) ?_
          refine r_getIv dX7_freeStrand_82 flX7_102 sh_28 (by decide) rfl (uC_c ht (by decide) _) ?_
          refine r_putIv dX7_freeStrand_85 flX7_105 ⟨_, _, _, rfl, Or.inl rfl⟩ sh_2 (by decide) rfl rfl rfl (uC_xc ht (by decide) _ _) ?_
          refine r_aload_n dX7_freeStrand_88 rfl ?_
          refine r_getR dX7_freeStrand_89 flX7_32 sh_2 (by decide) rfl (pf_2_0 hq.1) ?_
          refine r_cV0v dX7_freeStrand_92 vlX7_99 sh_28 (Nat.le_of_ble_eq_true rfl) (z E ex t I J P n (by omega) ht hE hq) ?_
          refine r_iconst (v := 1) dX7_freeStrand_95 (by decide) ?_
          exact r_iret dX7_freeStrand_96 rfl rfl rfl rfl
        · exact absurd h4 c68
    · exact absurd c32 (by decide)
  · exact absurd h c9
set_option maxHeartbeats 1000000 in
theorem twr_1 {M : Nat → Nat → Int32} {a : Int32} (h : ¬ M 347 8 = 3) : rRun 2 yX11_twistRead [.ref 347, .int a] M (some (.int 0)) (fR M 1) := by
  refine rAt.run (h := 1) cqX11_twistRead (ls := [some (.ref 347), some (.int a), none]) rfl (by simp [lg_sl, Value.category]) ?_
  intro E ex I J P n hn hP
  refine r_aload_n dX11_twistRead_0 rfl ?_
  refine r_getIv dX11_twistRead_1 flX11_211 sh_347 (by decide) rfl (uR_r (by decide) _) ?_
  refine r_iconst (v := 3) dX11_twistRead_4 (by decide) ?_
  refine r_ic_eq 14 dX11_twistRead_5 (by decide) (fun c5 => ?_) (fun c5 => ?_)
  · exact absurd c5 h
  · refine r_aload_n dX11_twistRead_8 rfl ?_
    refine r_iconst (v := 1) dX11_twistRead_9 (by decide) ?_
    refine r_cV1i dX11_twistRead_10 vlX11_235 sh_347 (Nat.le_of_ble_eq_true rfl) (wrong_r 1 E ex I J P n (by omega) hP) ?_
    exact r_iret dX11_twistRead_13 rfl rfl rfl rfl
set_option maxHeartbeats 1000000 in
theorem twr_4 {M : Nat → Nat → Int32} {a : Int32} {nd : Nat} (h : M 347 8 = 3) (hd : M 347 17 = nI nd) (h2 : ¬ M 347 9 < nI nd) : rRun 2 yX11_twistRead [.ref 347, .int a] M (some (.int 0)) (fR M 4) := by
  refine rAt.run (h := 1) cqX11_twistRead (ls := [some (.ref 347), some (.int a), none]) rfl (by simp [lg_sl, Value.category]) ?_
  intro E ex I J P n hn hP
  refine r_aload_n dX11_twistRead_0 rfl ?_
  refine r_getIv dX11_twistRead_1 flX11_211 sh_347 (by decide) rfl (uR_r (by decide) _) ?_
  refine r_iconst (v := 3) dX11_twistRead_4 (by decide) ?_
  refine r_ic_eq 14 dX11_twistRead_5 (by decide) (fun c5 => ?_) (fun c5 => ?_)
  · refine r_aload_n dX11_twistRead_14 rfl ?_
    refine r_getIv dX11_twistRead_15 flX11_222 sh_347 (by decide) rfl (uR_r (by decide) _) ?_
    refine r_istore_n2 dX11_twistRead_18 rfl ?_
    refine r_iload_n dX11_twistRead_19 rfl ?_
    refine r_aload_n dX11_twistRead_20 rfl ?_
    refine r_getIv dX11_twistRead_21 flX11_258 sh_347 (by decide) rfl (uR_v (by decide) hd) ?_
    refine r_ic_lt 33 dX11_twistRead_24 (by decide) (fun c24 => ?_) (fun c24 => ?_)
    · exact absurd c24 h2
    · refine r_aload_n dX11_twistRead_27 rfl ?_
      refine r_iconst (v := 4) dX11_twistRead_28 (by decide) ?_
      refine r_cV1i dX11_twistRead_29 vlX11_235 sh_347 (Nat.le_of_ble_eq_true rfl) (wrong_r 4 E ex I J P n (by omega) hP) ?_
      exact r_iret dX11_twistRead_32 rfl rfl rfl rfl
  · exact absurd h c5
set_option maxHeartbeats 1000000 in
theorem twr_5 {M : Nat → Nat → Int32} {a : Int32} {nd x : Nat} (h : M 347 8 = 3) (hd : M 347 17 = nI nd) (h2 : M 347 9 < nI nd) (hx : M 347 9 = nI x) (hx2 : x < 10) (h3 : nI x = a ∨ ¬ M 362 (10 + x) < 0) : rRun 2 yX11_twistRead [.ref 347, .int a] M (some (.int 0)) (fR M 5) := by
  refine rAt.run (h := 1) cqX11_twistRead (ls := [some (.ref 347), some (.int a), none]) rfl (by simp [lg_sl, Value.category]) ?_
  intro E ex I J P n hn hP
  refine r_aload_n dX11_twistRead_0 rfl ?_
  refine r_getIv dX11_twistRead_1 flX11_211 sh_347 (by decide) rfl (uR_r (by decide) _) ?_
  refine r_iconst (v := 3) dX11_twistRead_4 (by decide) ?_
  refine r_ic_eq 14 dX11_twistRead_5 (by decide) (fun c5 => ?_) (fun c5 => ?_)
  · refine r_aload_n dX11_twistRead_14 rfl ?_
    refine r_getIv dX11_twistRead_15 flX11_222 sh_347 (by decide) rfl (uR_r (by decide) _) ?_
    refine r_istore_n2 dX11_twistRead_18 rfl ?_
    refine r_iload_n dX11_twistRead_19 rfl ?_
    refine r_aload_n dX11_twistRead_20 rfl ?_
    refine r_getIv dX11_twistRead_21 flX11_258 sh_347 (by decide) rfl (uR_v (by decide) hd) ?_
    refine r_ic_lt 33 dX11_twistRead_24 (by decide) (fun c24 => ?_) (fun c24 => ?_)
    · refine r_iload_n dX11_twistRead_33 rfl ?_
      refine r_iload_n dX11_twistRead_34 rfl ?_
      refine r_ic_eq 50 dX11_twistRead_35 (by decide) (fun c35 => ?_) (fun c35 => ?_)
      · refine r_aload_n dX11_twistRead_50 rfl ?_
        refine r_iconst (v := 5) dX11_twistRead_51 (by decide) ?_
        refine r_cV1i dX11_twistRead_52 vlX11_235 sh_347 (Nat.le_of_ble_eq_true rfl) (wrong_r 5 E ex I J P n (by omega) hP) ?_
        exact r_iret dX11_twistRead_55 rfl rfl rfl rfl
      · refine r_aload_n dX11_twistRead_38 rfl ?_
        refine r_getR dX11_twistRead_39 flX11_57 sh_347 (by decide) rfl (pf_347_32 hP) ?_
        refine r_bipush (v := 10) dX11_twistRead_42 (by decide) ?_
        refine r_iload_n dX11_twistRead_44 rfl ?_
        refine r_iadd dX11_twistRead_45 ?_
        refine r_ialv dX11_twistRead_46 sh_362 (by rw [hx, show (10 : Int32) + nI x = nI (10 + x) from nI_add 10 x]; exact vp_in_nI (n := 10 + x) (by omega) (by decide)) ((uR_r (by decide) _).trans (congrArg (M 362) (show (10 + M 347 9).toNatClampNeg = 10 + x by rw [hx, show (10 : Int32) + nI x = nI (10 + x) from nI_add 10 x]; exact nI_clamp (n := 10 + x) (by omega)))) ?_
        refine r_if_lt 56 dX11_twistRead_47 (by decide) (fun c47 => ?_) (fun c47 => ?_)
        · exact absurd (h3.resolve_left (fun z => c35 (hx.trans z))) (fun z => z c47)
        · refine r_aload_n dX11_twistRead_50 rfl ?_
          refine r_iconst (v := 5) dX11_twistRead_51 (by decide) ?_
          refine r_cV1i dX11_twistRead_52 vlX11_235 sh_347 (Nat.le_of_ble_eq_true rfl) (wrong_r 5 E ex I J P n (by omega) hP) ?_
          exact r_iret dX11_twistRead_55 rfl rfl rfl rfl
    · exact absurd h2 c24
  · exact absurd h c5
set_option maxHeartbeats 1000000 in
theorem twr_t {M : Nat → Nat → Int32} {M' : Nat → Nat → Int32} {a : Int32} {nd x : Nat} (h : M 347 8 = 3) (hd : M 347 17 = nI nd) (h2 : M 347 9 < nI nd) (hx : M 347 9 = nI x) (hx2 : x < 10) (h3 : ¬ nI x = a) (h4 : M 362 (10 + x) < 0) (z : rRun 2 yX11_token [.ref 347] M none M') : rRun 3 yX11_twistRead [.ref 347, .int a] M (some (.int 1)) (xu M' 347 11 (M 347 9)) := by
  refine rAt.run (h := 2) cqX11_twistRead (ls := [some (.ref 347), some (.int a), none]) rfl (by simp [lg_sl, Value.category]) ?_
  intro E ex I J P n hn hP
  refine r_aload_n dX11_twistRead_0 rfl ?_
  refine r_getIv dX11_twistRead_1 flX11_211 sh_347 (by decide) rfl (uR_r (by decide) _) ?_
  refine r_iconst (v := 3) dX11_twistRead_4 (by decide) ?_
  refine r_ic_eq 14 dX11_twistRead_5 (by decide) (fun c5 => ?_) (fun c5 => ?_)
  · refine r_aload_n dX11_twistRead_14 rfl ?_
    refine r_getIv dX11_twistRead_15 flX11_222 sh_347 (by decide) rfl (uR_r (by decide) _) ?_
    refine r_istore_n2 dX11_twistRead_18 rfl ?_
    refine r_iload_n dX11_twistRead_19 rfl ?_
    refine r_aload_n dX11_twistRead_20 rfl ?_
    refine r_getIv dX11_twistRead_21 flX11_258 sh_347 (by decide) rfl (uR_v (by decide) hd) ?_
    refine r_ic_lt 33 dX11_twistRead_24 (by decide) (fun c24 => ?_) (fun c24 => ?_)
    · refine r_iload_n dX11_twistRead_33 rfl ?_
      refine r_iload_n dX11_twistRead_34 rfl ?_
      refine r_ic_eq 50 dX11_twistRead_35 (by decide) (fun c35 => ?_) (fun c35 => ?_)
      · exact absurd (hx.symm.trans c35) h3
      · refine r_aload_n dX11_twistRead_38 rfl ?_
        refine r_getR dX11_twistRead_39 flX11_57 sh_347 (by decide) rfl (pf_347_32 hP) ?_
        refine r_bipush (v := 10) dX11_twistRead_42 (by decide) ?_
        refine r_iload_n dX11_twistRead_44 rfl ?_
        refine r_iadd dX11_twistRead_45 ?_
        refine r_ialv dX11_twistRead_46 sh_362 (by rw [hx, show (10 : Int32) + nI x = nI (10 + x) from nI_add 10 x]; exact vp_in_nI (n := 10 + x) (by omega) (by decide)) ((uR_r (by decide) _).trans (congrArg (M 362) (show (10 + M 347 9).toNatClampNeg = 10 + x by rw [hx, show (10 : Int32) + nI x = nI (10 + x) from nI_add 10 x]; exact nI_clamp (n := 10 + x) (by omega)))) ?_
        refine r_if_lt 56 dX11_twistRead_47 (by decide) (fun c47 => ?_) (fun c47 => ?_)
        · refine r_aload_n dX11_twistRead_56 rfl ?_
          refine r_cV0v dX11_twistRead_57 vlX11_245 sh_347 (Nat.le_of_ble_eq_true rfl) (z E ex I J P n (by omega) hP) ?_
          refine r_aload_n dX11_twistRead_60 rfl ?_
          refine r_iload_n dX11_twistRead_61 rfl ?_
          refine r_putIv dX11_twistRead_62 flX11_242 ⟨_, _, _, rfl, Or.inl rfl⟩ sh_347 (by decide) rfl rfl rfl (uR_x (by decide) _ _) ?_
          refine r_iconst (v := 1) dX11_twistRead_65 (by decide) ?_
          exact r_iret dX11_twistRead_66 rfl rfl rfl rfl
        · exact absurd h4 c47
    · exact absurd h2 c24
  · exact absurd h c5
theorem fs_R {s i p np nd : Nat} {a : Int32} {K M : Nat → Nat → Int32} (h : jT s i p K M) (g : jD np nd K M) (hF : jF K M) : (∃ K' M', cRun false 4 yX7_freeStrand (fun _ => [.ref 2, .int a]) K (some (.int 0)) K' ∧ rRun 3 yX11_twistRead [.ref 347, .int a] M (some (.int 0)) M' ∧ jF K' M' ∧ agN K K' M M') ∨ ∃ x i' p' K2 M2, x < nd ∧ ¬ nI x = a ∧ K 26 x = -1 ∧ i ≤ p' ∧ cRun false 4 yX7_freeStrand (fun _ => [.ref 2, .int a]) K (some (.int 1)) K2 ∧ rRun 3 yX11_twistRead [.ref 347, .int a] M (some (.int 1)) M2 ∧ jT s i' p' K2 M2 ∧ agS K K2 M M2 ∧ K2 2 6 = nI x ∧ M2 347 11 = nI x := by
  have hd := g.1
  have v13 : vB K 16 13 0 = nI nd := by simp only [vB]; rw [if_neg (by decide)]; exact g.2.1
  rcases h.tk.num with ⟨a1, a2, a3⟩ | ⟨a1, a2⟩
  · have key : (∃ x, x < nd ∧ K 28 5 = nI x ∧ M 347 9 = nI x) ∨ (¬ sSt (vB K 16) (K 28 5) ∧ ¬ M 347 9 < nI nd) := by
      rcases a3 with ⟨b1, x, b2, b3⟩ | ⟨⟨x, b1, b2, b3⟩, ⟨x2, b4, b5, b6⟩⟩
      · by_cases e : x < nd
        · exact Or.inl ⟨x, e, b3, b1.symm.trans b3⟩
        · refine Or.inr ⟨fun z => z.2.1 ?_, ?_⟩
          · rw [v13, b3]; exact nI_le (by omega) (by omega)
          · rw [← b1, b3]; exact Int32.not_lt.mpr (nI_le (by omega) (by omega))
      · refine Or.inr ⟨fun z => z.2.1 ?_, ?_⟩
        · rw [v13, b3]; exact nI_le (by omega) (by omega)
        · rw [b6]; exact Int32.not_lt.mpr (nI_le (by omega) (by omega))
    rcases key with ⟨x, e1, e2, e3⟩ | ⟨e1, e2⟩
    · have q1 : sSt (vB K 16) (K 28 5) := by
        rw [e2]
        exact ⟨nI_pos (by omega), by rw [v13]; exact nI_ge e1 (by omega), nI_ge (a := x) (b := 12) (by omega) (by omega)⟩
      have q2 : M 347 9 < nI nd := by rw [e3]; exact nI_lt e1 (by omega)
      have q3 := (g.2.2.2.2.2.1 x e1).2.2.2.2.2.2.2.2.2.2.2.1
      have q4 : K 26 x = -1 ∨ ¬ M 362 (10 + x) < 0 ∧ ¬ K 26 x = -1 := by
        rcases g.2.2.2.2.2.2.2 x e1 with z | ⟨y, z1, z2, z3, z4⟩
        · exact Or.inl z
        · refine Or.inr ⟨?_, ?_⟩
          · rw [← q3, z3]; exact nI_pos (by omega)
          · rw [z3]; exact nI_nm1 (by omega)
      by_cases q5 : nI x = a
      · exact Or.inl ⟨_, _, fun E ex t I J P n hn => free_5 a1 q1 e2 (by omega) (Or.inl q5) E ex t I J P n (by omega), fun E ex I J P n hn => twr_5 a2 g.2.2.2.1 q2 e3 (by omega) (Or.inl q5) E ex I J P n (by omega), bad_F h 5, bad_N K M 5⟩
      · rcases q4 with q4 | ⟨q4, q6⟩
        · have t1 : jT s i p (xu K 2 6 (K 28 5)) M := h.c (fun a k z => xu_ne (by omega)) (fun a k z => rfl)
          obtain ⟨i', p', K2, M1, c1, c2, c3, c4, c5⟩ := adv_R t1
          refine Or.inr ⟨x, i', p', K2, xu M1 347 11 (M 347 9), e1, q5, q4, c1, free_t a1 q1 e2 (by omega) q5 q4 c4, twr_t a2 g.2.2.2.1 q2 e3 (by omega) q5 (by rw [← q3, q4]; decide) c5, c2.c (fun a k z => rfl) (fun a k z => xu_ne (by omega)), ⟨fun a k z => (c3.1 a k (by omega)).trans (xu_ne (by omega)), fun a k z => (xu_ne (by omega)).trans (c3.2 a k (by omega))⟩, ((c3.1 2 6 (by decide)).trans (xu_s _ _ _ _)).trans e2, (xu_s _ _ _ _).trans e3⟩
        · exact Or.inl ⟨_, _, fun E ex t I J P n hn => free_5 a1 q1 e2 (by omega) (Or.inr q6) E ex t I J P n (by omega), fun E ex I J P n hn => twr_5 a2 g.2.2.2.1 q2 e3 (by omega) (Or.inr q4) E ex I J P n (by omega), bad_F h 5, bad_N K M 5⟩
    · exact Or.inl ⟨_, _, fun E ex t I J P n hn => free_4 a1 e1 E ex t I J P n (by omega), fun E ex I J P n hn => twr_4 a2 g.2.2.2.1 e2 E ex I J P n (by omega), bad_F h 4, bad_N K M 4⟩
  · exact Or.inl ⟨_, _, fun E ex t I J P n hn => free_1 a1 E ex t I J P n (by omega), fun E ex I J P n hn => twr_1 a2 E ex I J P n (by omega), bad_F h 1, bad_N K M 1⟩
