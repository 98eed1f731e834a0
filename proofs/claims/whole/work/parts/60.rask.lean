/-! the reference: its questions -/
theorem LwR.x {I : Nat → Nat → Int32} {L : Nat → (Nat → Int64) → Int64} (h : LwR I L) {a : Nat} (ha : a < 366 ∨ 371 < a) (k : Nat) (v : Int32) : LwR (xu I a k v) L := h.of (fun q h1 h2 => funext (fun z => xu_f _ _ (by omega)))
set_option maxHeartbeats 1000000 in
theorem k_isIn_t {E : xCl} {ex : Bool} {I : Nat → Nat → Int32} {J : Nat → Nat → Int64} {P : Nat → Nat → Nat} {x lo hi : Int32} (h : (¬ x < lo ∧ ¬ hi < x)) (d : Nat) : xEx E ex (d + 1) yX11_isIn [.int x, .int lo, .int hi] (SH, I, J, P) (some (.int 1)) (SH, I, J, P) := by
  refine x_enter cqX11_isIn [some (.int x), some (.int lo), some (.int hi)] rfl (by simp [lg_sl, Value.category]) ?_
  refine r_iload_n dX11_isIn_0 rfl ?_
  refine r_iload_n dX11_isIn_1 rfl ?_
  refine r_ic_lt 14 dX11_isIn_2 (by decide) (fun c2 => ?_) (fun c2 => ?_)
  · exact absurd c2 h.1
  · refine r_iload_n dX11_isIn_5 rfl ?_
    refine r_iload_n dX11_isIn_6 rfl ?_
    refine r_ic_gt 14 dX11_isIn_7 (by decide) (fun c7 => ?_) (fun c7 => ?_)
    · exact absurd c7 h.2
    · refine r_iconst (v := 1) dX11_isIn_10 (by decide) ?_
      refine r_goto 15 dX11_isIn_11 (by decide) ?_
      exact r_iret dX11_isIn_15 rfl rfl rfl rfl
set_option maxHeartbeats 1000000 in
theorem k_isOf_t {E : xCl} {ex : Bool} {I : Nat → Nat → Int32} {J : Nat → Nat → Int64} {P : Nat → Nat → Nat} {x k : Int32} (h : (x >>> (k &&& 31)) &&& 1 = 1) (d : Nat) : xEx E ex (d + 1) yX11_isOf [.int x, .int k] (SH, I, J, P) (some (.int 1)) (SH, I, J, P) := by
  refine x_enter cqX11_isOf [some (.int x), some (.int k)] rfl (by simp [lg_sl, Value.category]) ?_
  refine r_iload_n dX11_isOf_0 rfl ?_
  refine r_iload_n dX11_isOf_1 rfl ?_
  refine r_ishr dX11_isOf_2 ?_
  refine r_iconst (v := 1) dX11_isOf_3 (by decide) ?_
  refine r_iand dX11_isOf_4 ?_
  refine r_iconst (v := 1) dX11_isOf_5 (by decide) ?_
  refine r_ic_ne 13 dX11_isOf_6 (by decide) (fun c6 => ?_) (fun c6 => ?_)
  · exact absurd h c6
  · refine r_iconst (v := 1) dX11_isOf_9 (by decide) ?_
    refine r_goto 14 dX11_isOf_10 (by decide) ?_
    exact r_iret dX11_isOf_14 rfl rfl rfl rfl
set_option maxHeartbeats 1000000 in
theorem k_rPer_t {E : xCl} {ex : Bool} {I V : Nat → Nat → Int32} {e : Int32} {J : Nat → Nat → Int64} {P : Nat → Nat → Nat} {b : Nat} {x : Int32} (h : (¬ x < 0 ∧ ¬ I 347 12 ≤ x)) (d : Nat) : xEx E ex (d + 1) yX11_isPerson [.ref 347, .int x] (SH, wR (wE I e) b V, J, P) (some (.int 1)) (SH, wR (wE I e) b V, J, P) := by
  refine x_enter cqX11_isPerson [some (.ref 347), some (.int x)] rfl (by simp [lg_sl, Value.category]) ?_
  refine r_iload_n dX11_isPerson_0 rfl ?_
  refine r_if_lt 16 dX11_isPerson_1 (by decide) (fun c1 => ?_) (fun c1 => ?_)
  · exact absurd c1 h.1
  · refine r_iload_n dX11_isPerson_4 rfl ?_
    refine r_aload_n dX11_isPerson_5 rfl ?_
    refine r_getIv dX11_isPerson_6 flX11_270 sh_347 (by decide) rfl ((wR_o _ _ _ (by decide) _).trans (wE_f _ _ (by decide))) ?_
    refine r_ic_ge 16 dX11_isPerson_9 (by decide) (fun c9 => ?_) (fun c9 => ?_)
    · exact absurd c9 h.2
    · refine r_iconst (v := 1) dX11_isPerson_12 (by decide) ?_
      refine r_goto 17 dX11_isPerson_13 (by decide) ?_
      exact r_iret dX11_isPerson_17 rfl rfl rfl rfl
set_option maxHeartbeats 1000000 in
theorem k_rStr_t {E : xCl} {ex : Bool} {I V : Nat → Nat → Int32} {e : Int32} {J : Nat → Nat → Int64} {P : Nat → Nat → Nat} (hP : Pok P) {n : Nat} (hv : Vok V n) {x : Int32} (h : sSt V x) (d : Nat) : xEx E ex (d + 1) yX11_isStrand [.ref 347, .int x] (SH, wR (wE I e) 0 V, J, P) (some (.int 1)) (SH, wR (wE I e) 0 V, J, P) := by
  refine x_enter cqX11_isStrand [some (.ref 347), some (.int x)] rfl (by simp [lg_sl, Value.category]) ?_
  refine r_iload_n dX11_isStrand_0 rfl ?_
  refine r_if_lt 18 dX11_isStrand_1 (by decide) (fun c1 => ?_) (fun c1 => ?_)
  · exact absurd c1 h.1
  · refine r_iload_n dX11_isStrand_4 rfl ?_
    refine r_aload_n dX11_isStrand_5 rfl ?_
    refine r_getR dX11_isStrand_6 flX11_106 sh_347 (by decide) rfl (pf_347_55 hP) ?_
    refine r_iconst (v := 0) dX11_isStrand_9 (by decide) ?_
    refine r_ialv dX11_isStrand_10 sh_378 ix2_0 (rS13_0 _ _) ?_
    refine r_ic_ge 18 dX11_isStrand_11 (by decide) (fun c11 => ?_) (fun c11 => ?_)
    · exact absurd c11 h.2.1
    · refine r_iconst (v := 1) dX11_isStrand_14 (by decide) ?_
      refine r_goto 19 dX11_isStrand_15 (by decide) ?_
      exact r_iret dX11_isStrand_19 rfl rfl rfl rfl
theorem k_rTh0_t {E : xCl} {ex : Bool} {I V : Nat → Nat → Int32} {e : Int32} {J : Nat → Nat → Int64} {P : Nat → Nat → Nat} (hP : Pok P) {x : Int32} (hx : vp_in x 12) (h : V 9 x.toNatClampNeg = 0) (d : Nat) : xEx E ex (d + 1) yX11_isThere [.ref 347, .int 0, .int x] (SH, wR (wE I e) 0 V, J, P) (some (.int 1)) (SH, wR (wE I e) 0 V, J, P) := k_rTh_t hP (b := 0) (by decide) hx h d
set_option maxHeartbeats 1000000 in
theorem k_isIn_f {E : xCl} {ex : Bool} {I : Nat → Nat → Int32} {J : Nat → Nat → Int64} {P : Nat → Nat → Nat} {x lo hi : Int32} (h : ¬ (¬ x < lo ∧ ¬ hi < x)) (d : Nat) : xEx E ex (d + 1) yX11_isIn [.int x, .int lo, .int hi] (SH, I, J, P) (some (.int 0)) (SH, I, J, P) := by
  refine x_enter cqX11_isIn [some (.int x), some (.int lo), some (.int hi)] rfl (by simp [lg_sl, Value.category]) ?_
  refine r_iload_n dX11_isIn_0 rfl ?_
  refine r_iload_n dX11_isIn_1 rfl ?_
  refine r_ic_lt 14 dX11_isIn_2 (by decide) (fun c2 => ?_) (fun c2 => ?_)
  · refine r_iconst (v := 0) dX11_isIn_14 (by decide) ?_
    exact r_iret dX11_isIn_15 rfl rfl rfl rfl
  · refine r_iload_n dX11_isIn_5 rfl ?_
    refine r_iload_n dX11_isIn_6 rfl ?_
    refine r_ic_gt 14 dX11_isIn_7 (by decide) (fun c7 => ?_) (fun c7 => ?_)
    · refine r_iconst (v := 0) dX11_isIn_14 (by decide) ?_
      exact r_iret dX11_isIn_15 rfl rfl rfl rfl
    · exact absurd ⟨c2, c7⟩ h
set_option maxHeartbeats 1000000 in
theorem k_isOf_f {E : xCl} {ex : Bool} {I : Nat → Nat → Int32} {J : Nat → Nat → Int64} {P : Nat → Nat → Nat} {x k : Int32} (h : ¬ (x >>> (k &&& 31)) &&& 1 = 1) (d : Nat) : xEx E ex (d + 1) yX11_isOf [.int x, .int k] (SH, I, J, P) (some (.int 0)) (SH, I, J, P) := by
  refine x_enter cqX11_isOf [some (.int x), some (.int k)] rfl (by simp [lg_sl, Value.category]) ?_
  refine r_iload_n dX11_isOf_0 rfl ?_
  refine r_iload_n dX11_isOf_1 rfl ?_
  refine r_ishr dX11_isOf_2 ?_
  refine r_iconst (v := 1) dX11_isOf_3 (by decide) ?_
  refine r_iand dX11_isOf_4 ?_
  refine r_iconst (v := 1) dX11_isOf_5 (by decide) ?_
  refine r_ic_ne 13 dX11_isOf_6 (by decide) (fun c6 => ?_) (fun c6 => ?_)
  · refine r_iconst (v := 0) dX11_isOf_13 (by decide) ?_
    exact r_iret dX11_isOf_14 rfl rfl rfl rfl
  · exact absurd c6 h
set_option maxHeartbeats 1000000 in
theorem k_rPer_f {E : xCl} {ex : Bool} {I V : Nat → Nat → Int32} {e : Int32} {J : Nat → Nat → Int64} {P : Nat → Nat → Nat} {b : Nat} {x : Int32} (h : ¬ (¬ x < 0 ∧ ¬ I 347 12 ≤ x)) (d : Nat) : xEx E ex (d + 1) yX11_isPerson [.ref 347, .int x] (SH, wR (wE I e) b V, J, P) (some (.int 0)) (SH, wR (wE I e) b V, J, P) := by
  refine x_enter cqX11_isPerson [some (.ref 347), some (.int x)] rfl (by simp [lg_sl, Value.category]) ?_
  refine r_iload_n dX11_isPerson_0 rfl ?_
  refine r_if_lt 16 dX11_isPerson_1 (by decide) (fun c1 => ?_) (fun c1 => ?_)
  · refine r_iconst (v := 0) dX11_isPerson_16 (by decide) ?_
    exact r_iret dX11_isPerson_17 rfl rfl rfl rfl
  · refine r_iload_n dX11_isPerson_4 rfl ?_
    refine r_aload_n dX11_isPerson_5 rfl ?_
    refine r_getIv dX11_isPerson_6 flX11_270 sh_347 (by decide) rfl ((wR_o _ _ _ (by decide) _).trans (wE_f _ _ (by decide))) ?_
    refine r_ic_ge 16 dX11_isPerson_9 (by decide) (fun c9 => ?_) (fun c9 => ?_)
    · refine r_iconst (v := 0) dX11_isPerson_16 (by decide) ?_
      exact r_iret dX11_isPerson_17 rfl rfl rfl rfl
    · exact absurd ⟨c1, c9⟩ h
set_option maxHeartbeats 1000000 in
theorem k_rStr_f {E : xCl} {ex : Bool} {I V : Nat → Nat → Int32} {e : Int32} {J : Nat → Nat → Int64} {P : Nat → Nat → Nat} (hP : Pok P) {n : Nat} (hv : Vok V n) {x : Int32} (h : ¬ sSt V x) (d : Nat) : xEx E ex (d + 1) yX11_isStrand [.ref 347, .int x] (SH, wR (wE I e) 0 V, J, P) (some (.int 0)) (SH, wR (wE I e) 0 V, J, P) := by
  refine x_enter cqX11_isStrand [some (.ref 347), some (.int x)] rfl (by simp [lg_sl, Value.category]) ?_
  refine r_iload_n dX11_isStrand_0 rfl ?_
  refine r_if_lt 18 dX11_isStrand_1 (by decide) (fun c1 => ?_) (fun c1 => ?_)
  · refine r_iconst (v := 0) dX11_isStrand_18 (by decide) ?_
    exact r_iret dX11_isStrand_19 rfl rfl rfl rfl
  · refine r_iload_n dX11_isStrand_4 rfl ?_
    refine r_aload_n dX11_isStrand_5 rfl ?_
    refine r_getR dX11_isStrand_6 flX11_106 sh_347 (by decide) rfl (pf_347_55 hP) ?_
    refine r_iconst (v := 0) dX11_isStrand_9 (by decide) ?_
    refine r_ialv dX11_isStrand_10 sh_378 ix2_0 (rS13_0 _ _) ?_
    refine r_ic_ge 18 dX11_isStrand_11 (by decide) (fun c11 => ?_) (fun c11 => ?_)
    · refine r_iconst (v := 0) dX11_isStrand_18 (by decide) ?_
      exact r_iret dX11_isStrand_19 rfl rfl rfl rfl
    · exact absurd ⟨c1, c11, hv.le12 c11⟩ h
theorem k_rTh0_f {E : xCl} {ex : Bool} {I V : Nat → Nat → Int32} {e : Int32} {J : Nat → Nat → Int64} {P : Nat → Nat → Nat} (hP : Pok P) {x : Int32} (hx : vp_in x 12) (h : ¬ V 9 x.toNatClampNeg = 0) (d : Nat) : xEx E ex (d + 1) yX11_isThere [.ref 347, .int 0, .int x] (SH, wR (wE I e) 0 V, J, P) (some (.int 0)) (SH, wR (wE I e) 0 V, J, P) := k_rTh_f hP (b := 0) (by decide) hx h d
set_option maxHeartbeats 1000000 in
theorem l_sumOwed {E : xCl} {ex : Bool} {I V : Nat → Nat → Int32} {e : Int32} {J : Nat → Nat → Int64} {P : Nat → Nat → Nat} (hP : Pok P) {n : Nat} (hv : Vok V n) {p q : Int32} (hp : p < 0 ↔ p = -1) (hq : q < 0 ↔ q = -1) (d : Nat) : ∀ j, j ≤ n → xR (xEx E ex (d + 1)) ex none yX11_sumOwed cX11_sumOwed (some .int) 5 [some (.ref 347), some (.int p), some (.int q), some (.int (sOw V p q j)), some (.int (nI j))] [] (SH, wR (wE I e) 0 V, J, P) (xEq (some (.int (sOw V p q n))) (SH, wR (wE I e) 0 V, J, P)) := by
  refine r_for (fun j => xR (xEx E ex (d + 1)) ex none yX11_sumOwed cX11_sumOwed (some .int) 5 [some (.ref 347), some (.int p), some (.int q), some (.int (sOw V p q j)), some (.int (nI j))] [] (SH, wR (wE I e) 0 V, J, P) (xEq (some (.int (sOw V p q n))) (SH, wR (wE I e) 0 V, J, P))) _ ?_ ?_
  · intro j hj ih
    refine r_iload dX11_sumOwed_5 rfl ?_
    refine r_aload_n dX11_sumOwed_7 rfl ?_
    refine r_getR dX11_sumOwed_8 flX11_106 sh_347 (by decide) rfl (pf_347_55 hP) ?_
    refine r_iconst (v := 0) dX11_sumOwed_11 (by decide) ?_
    refine r_ialv dX11_sumOwed_12 sh_378 ix2_0 (rS13_0 _ _) ?_
    refine r_ic_ge 72 dX11_sumOwed_13 (by decide) (fun c13 => ?_) (fun c13 => ?_)
    · exact absurd c13 (hv.g hj)
    · refine r_aload_n dX11_sumOwed_16 rfl ?_
      refine r_iconst (v := 0) dX11_sumOwed_17 (by decide) ?_
      refine r_iload dX11_sumOwed_18 rfl ?_
      by_cases h20 : V 9 (nI j).toNatClampNeg = 0
      · refine r_cV2i dX11_sumOwed_20 vlX11_418 sh_347 (Nat.le_of_ble_eq_true rfl) (k_rTh0_t hP (hv.i hj) h20 d) ?_
        have q20 : V 9 j = 0 := by rw [hv.c hj] at h20; exact h20
        refine r_if_eq 66 dX11_sumOwed_23 (by decide) (fun c23 => ?_) (fun c23 => ?_)
        · exact absurd c23 (by decide)
        · refine r_iload_n dX11_sumOwed_26 rfl ?_
          refine r_if_lt 41 dX11_sumOwed_27 (by decide) (fun c27 => ?_) (fun c27 => ?_)
          · refine r_iload_n dX11_sumOwed_41 rfl ?_
            refine r_if_lt 56 dX11_sumOwed_42 (by decide) (fun c42 => ?_) (fun c42 => ?_)
            · refine r_iload_n dX11_sumOwed_56 rfl ?_
              refine r_aload_n dX11_sumOwed_57 rfl ?_
              refine r_getR dX11_sumOwed_58 flX11_121 sh_347 (by decide) rfl (pf_347_60 hP) ?_
              refine r_iload dX11_sumOwed_61 rfl ?_
              refine r_ialv dX11_sumOwed_63 sh_383 (iz12 (hv.i hj)) ((rZ5 _ _ (hv.i hj)).trans (congrArg (V 5) (hv.c hj))) ?_
              refine r_iadd dX11_sumOwed_64 ?_
              refine r_istore_n3 dX11_sumOwed_65 rfl ?_
              refine r_iinc4 (v := 1) dX11_sumOwed_66 (by decide) rfl ?_
              refine r_goto 5 dX11_sumOwed_69 (by decide) ?_
              rw [nI_1]; rw [sOw, if_pos ⟨q20, Or.inl (hp.mp c27), Or.inl (hq.mp c42)⟩] at ih; exact ih
            · refine r_aload_n dX11_sumOwed_45 rfl ?_
              refine r_getR dX11_sumOwed_46 flX11_112 sh_347 (by decide) rfl (pf_347_57 hP) ?_
              refine r_iload dX11_sumOwed_49 rfl ?_
              refine r_ialv dX11_sumOwed_51 sh_380 (hv.i hj) ((rR4 _ _ (hv.i hj)).trans (congrArg (V 4) (hv.c hj))) ?_
              refine r_iload_n dX11_sumOwed_52 rfl ?_
              refine r_ic_ne 66 dX11_sumOwed_53 (by decide) (fun c53 => ?_) (fun c53 => ?_)
              · refine r_iinc4 (v := 1) dX11_sumOwed_66 (by decide) rfl ?_
                refine r_goto 5 dX11_sumOwed_69 (by decide) ?_
                rw [nI_1]; rw [sOw, if_neg (fun z => z.2.2.elim (fun y => c42 (hq.mpr y)) (fun y => c53 y))] at ih; exact ih
              · refine r_iload_n dX11_sumOwed_56 rfl ?_
                refine r_aload_n dX11_sumOwed_57 rfl ?_
                refine r_getR dX11_sumOwed_58 flX11_121 sh_347 (by decide) rfl (pf_347_60 hP) ?_
                refine r_iload dX11_sumOwed_61 rfl ?_
                refine r_ialv dX11_sumOwed_63 sh_383 (iz12 (hv.i hj)) ((rZ5 _ _ (hv.i hj)).trans (congrArg (V 5) (hv.c hj))) ?_
                refine r_iadd dX11_sumOwed_64 ?_
                refine r_istore_n3 dX11_sumOwed_65 rfl ?_
                refine r_iinc4 (v := 1) dX11_sumOwed_66 (by decide) rfl ?_
                refine r_goto 5 dX11_sumOwed_69 (by decide) ?_
                rw [nI_1]; rw [sOw, if_pos ⟨q20, Or.inl (hp.mp c27), Or.inr c53⟩] at ih; exact ih
          · refine r_aload_n dX11_sumOwed_30 rfl ?_
            refine r_getR dX11_sumOwed_31 flX11_109 sh_347 (by decide) rfl (pf_347_56 hP) ?_
            refine r_iload dX11_sumOwed_34 rfl ?_
            refine r_ialv dX11_sumOwed_36 sh_379 (hv.i hj) ((rR3 _ _ (hv.i hj)).trans (congrArg (V 3) (hv.c hj))) ?_
            refine r_iload_n dX11_sumOwed_37 rfl ?_
            refine r_ic_ne 66 dX11_sumOwed_38 (by decide) (fun c38 => ?_) (fun c38 => ?_)
            · refine r_iinc4 (v := 1) dX11_sumOwed_66 (by decide) rfl ?_
              refine r_goto 5 dX11_sumOwed_69 (by decide) ?_
              rw [nI_1]; rw [sOw, if_neg (fun z => z.2.1.elim (fun y => c27 (hp.mpr y)) (fun y => c38 y))] at ih; exact ih
            · refine r_iload_n dX11_sumOwed_41 rfl ?_
              refine r_if_lt 56 dX11_sumOwed_42 (by decide) (fun c42 => ?_) (fun c42 => ?_)
              · refine r_iload_n dX11_sumOwed_56 rfl ?_
                refine r_aload_n dX11_sumOwed_57 rfl ?_
                refine r_getR dX11_sumOwed_58 flX11_121 sh_347 (by decide) rfl (pf_347_60 hP) ?_
                refine r_iload dX11_sumOwed_61 rfl ?_
                refine r_ialv dX11_sumOwed_63 sh_383 (iz12 (hv.i hj)) ((rZ5 _ _ (hv.i hj)).trans (congrArg (V 5) (hv.c hj))) ?_
                refine r_iadd dX11_sumOwed_64 ?_
                refine r_istore_n3 dX11_sumOwed_65 rfl ?_
                refine r_iinc4 (v := 1) dX11_sumOwed_66 (by decide) rfl ?_
                refine r_goto 5 dX11_sumOwed_69 (by decide) ?_
                rw [nI_1]; rw [sOw, if_pos ⟨q20, Or.inr c38, Or.inl (hq.mp c42)⟩] at ih; exact ih
              · refine r_aload_n dX11_sumOwed_45 rfl ?_
                refine r_getR dX11_sumOwed_46 flX11_112 sh_347 (by decide) rfl (pf_347_57 hP) ?_
                refine r_iload dX11_sumOwed_49 rfl ?_
                refine r_ialv dX11_sumOwed_51 sh_380 (hv.i hj) ((rR4 _ _ (hv.i hj)).trans (congrArg (V 4) (hv.c hj))) ?_
                refine r_iload_n dX11_sumOwed_52 rfl ?_
                refine r_ic_ne 66 dX11_sumOwed_53 (by decide) (fun c53 => ?_) (fun c53 => ?_)
                · refine r_iinc4 (v := 1) dX11_sumOwed_66 (by decide) rfl ?_
                  refine r_goto 5 dX11_sumOwed_69 (by decide) ?_
                  rw [nI_1]; rw [sOw, if_neg (fun z => z.2.2.elim (fun y => c42 (hq.mpr y)) (fun y => c53 y))] at ih; exact ih
                · refine r_iload_n dX11_sumOwed_56 rfl ?_
                  refine r_aload_n dX11_sumOwed_57 rfl ?_
                  refine r_getR dX11_sumOwed_58 flX11_121 sh_347 (by decide) rfl (pf_347_60 hP) ?_
                  refine r_iload dX11_sumOwed_61 rfl ?_
                  refine r_ialv dX11_sumOwed_63 sh_383 (iz12 (hv.i hj)) ((rZ5 _ _ (hv.i hj)).trans (congrArg (V 5) (hv.c hj))) ?_
                  refine r_iadd dX11_sumOwed_64 ?_
                  refine r_istore_n3 dX11_sumOwed_65 rfl ?_
                  refine r_iinc4 (v := 1) dX11_sumOwed_66 (by decide) rfl ?_
                  refine r_goto 5 dX11_sumOwed_69 (by decide) ?_
                  rw [nI_1]; rw [sOw, if_pos ⟨q20, Or.inr c38, Or.inr c53⟩] at ih; exact ih
      · refine r_cV2i dX11_sumOwed_20 vlX11_418 sh_347 (Nat.le_of_ble_eq_true rfl) (k_rTh0_f hP (hv.i hj) h20 d) ?_
        have q20 : ¬ V 9 j = 0 := by rw [hv.c hj] at h20; exact h20
        refine r_if_eq 66 dX11_sumOwed_23 (by decide) (fun c23 => ?_) (fun c23 => ?_)
        · refine r_iinc4 (v := 1) dX11_sumOwed_66 (by decide) rfl ?_
          refine r_goto 5 dX11_sumOwed_69 (by decide) ?_
          rw [nI_1]; rw [sOw, if_neg (fun z => q20 z.1)] at ih; exact ih
        · exact absurd c23 (by decide)
  · refine r_iload dX11_sumOwed_5 rfl ?_
    refine r_aload_n dX11_sumOwed_7 rfl ?_
    refine r_getR dX11_sumOwed_8 flX11_106 sh_347 (by decide) rfl (pf_347_55 hP) ?_
    refine r_iconst (v := 0) dX11_sumOwed_11 (by decide) ?_
    refine r_ialv dX11_sumOwed_12 sh_378 ix2_0 (rS13_0 _ _) ?_
    refine r_ic_ge 72 dX11_sumOwed_13 (by decide) (fun c13 => ?_) (fun c13 => ?_)
    · refine r_iload_n dX11_sumOwed_72 rfl ?_
      exact r_iret dX11_sumOwed_73 rfl rfl rfl rfl
    · exact absurd hv.l c13
set_option maxHeartbeats 1000000 in
theorem k_sumOwed {E : xCl} {ex : Bool} {I V : Nat → Nat → Int32} {e : Int32} {J : Nat → Nat → Int64} {P : Nat → Nat → Nat} (hP : Pok P) {n : Nat} (hv : Vok V n) {p q : Int32} (hp : p < 0 ↔ p = -1) (hq : q < 0 ↔ q = -1) (d : Nat) : xEx E ex (d + 2) yX11_sumOwed [.ref 347, .int p, .int q] (SH, wR (wE I e) 0 V, J, P) (some (.int (sOw V p q n))) (SH, wR (wE I e) 0 V, J, P) := by
  refine x_enter cqX11_sumOwed [some (.ref 347), some (.int p), some (.int q), none, none] rfl (by simp [lg_sl, Value.category]) ?_
  refine r_iconst (v := 0) dX11_sumOwed_0 (by decide) ?_
  refine r_istore_n3 dX11_sumOwed_1 rfl ?_
  refine r_iconst (v := 0) dX11_sumOwed_2 (by decide) ?_
  refine r_istore4 dX11_sumOwed_3 rfl ?_
  exact l_sumOwed hP hv hp hq d 0 (Nat.zero_le n)
theorem m1_m1 : (-1 : Int32) < 0 ↔ (-1 : Int32) = -1 := by decide
theorem pos_m1 {x : Int32} (h : ¬ x < 0) : x < 0 ↔ x = -1 := ⟨fun z => absurd z h, fun z => by rw [z]; decide⟩
set_option maxHeartbeats 1000000 in
theorem k_fails {E : xCl} {ex : Bool} {I V : Nat → Nat → Int32} {e : Int32} {J : Nat → Nat → Int64} {P : Nat → Nat → Nat} {b : Nat} (x : Int32) (d : Nat) : xEx E ex (d + 1) yX11_fails [.ref 347, .int x] (SH, wR (wE I e) b V, J, P) (some (.int 0)) (SH, wR (wE (xu I 347 2 x) e) b V, J, P) := by
  refine x_enter cqX11_fails [some (.ref 347), some (.int x)] rfl (by simp [lg_sl, Value.category]) ?_
  refine r_aload_n dX11_fails_0 rfl ?_
  refine r_iload_n dX11_fails_1 rfl ?_
  refine r_putIv dX11_fails_2 flX11_193 ⟨_, _, _, rfl, Or.inl rfl⟩ sh_347 (by decide) rfl rfl rfl ((wR_xo _ _ _ (by decide) _ _).trans (congrArg (fun z => wR z _ _) (wE_c _ _ _ (by decide)))) ?_
  refine r_iconst (v := 0) dX11_fails_5 (by decide) ?_
  exact r_iret dX11_fails_6 rfl rfl rfl rfl
set_option maxHeartbeats 1000000 in
theorem k_thrown {E : xCl} {ex : Bool} {I : Nat → Nat → Int32} {J : Nat → Nat → Int64} {P : Nat → Nat → Nat}  (d : Nat) : xEx E ex (d + 1) yX11_thrown [.ref 347] (SH, I, J, P) (some (.int (I 347 2))) (SH, I, J, P) := by
  refine x_enter cqX11_thrown [some (.ref 347)] rfl (by simp [lg_sl, Value.category]) ?_
  refine r_aload_n dX11_thrown_0 rfl ?_
  refine r_getI dX11_thrown_1 flX11_193 sh_347 (by decide) rfl ?_
  exact r_iret dX11_thrown_4 rfl rfl rfl rfl
theorem tsout_0_5 {k : Int32} (q0 : ¬ k = 0) (q1 : ¬ k = 1) (q2 : ¬ k = 2) (q3 : ¬ k = 3) (q4 : ¬ k = 4) (q5 : ¬ k = 5) : k.toInt < 0 ∨ 5 < k.toInt := by
  rcases Int.lt_or_le k.toInt 0 with h | h
  · exact Or.inl h
  · right
    apply Classical.byContradiction
    intro h2
    have h3 : k.toInt = 0 ∨ k.toInt = 1 ∨ k.toInt = 2 ∨ k.toInt = 3 ∨ k.toInt = 4 ∨ k.toInt = 5 := by omega
    rcases h3 with h3 | h3 | h3 | h3 | h3 | h3
    · exact q0 (Int32.toInt_inj.mp (h3.trans (by decide)))
    · exact q1 (Int32.toInt_inj.mp (h3.trans (by decide)))
    · exact q2 (Int32.toInt_inj.mp (h3.trans (by decide)))
    · exact q3 (Int32.toInt_inj.mp (h3.trans (by decide)))
    · exact q4 (Int32.toInt_inj.mp (h3.trans (by decide)))
    · exact q5 (Int32.toInt_inj.mp (h3.trans (by decide)))
/-- the person's answers, where there is one; and what is thrown -/
def rPs (V I : Nat → Nat → Int32) (n : Nat) (x w : Int32) : Int32 := if w = 0 then V 1 x.toNatClampNeg else if w = 1 then I 355 x.toNatClampNeg else if w = 2 then I 353 x.toNatClampNeg else if w = 3 then V 2 x.toNatClampNeg else if w = 4 then sOw V x (-1) n else sOw V (-1) x n
theorem in6p {x : Int32} {p : Nat} (hp : p ≤ 6) {M : Int32} (hM : M = nI p) (h0 : ¬ x < 0) (h1 : ¬ M ≤ x) : vp_in x 6 := by
  subst hM
  rw [vp_in_iff]
  simp only [Int32.lt_iff_toInt_lt, Int32.le_iff_toInt_le, Int32.toInt_zero, nI_toInt (show p < 2 ^ 31 by omega)] at h0 h1
  omega
set_option maxHeartbeats 1000000 in
theorem k_rperson_n {E : xCl} {ex : Bool} {I I0 V : Nat → Nat → Int32} {e : Int32} {J : Nat → Nat → Int64} {P : Nat → Nat → Nat} (hP : Pok P) (hI : xu I 347 2 0 = I0) {x : Int32} (w : Int32) (h : ¬ (¬ x < 0 ∧ ¬ I0 347 12 ≤ x)) (d : Nat) : xEx E ex (d + 2) yX11_person [.ref 347, .int x, .int w] (SH, wR (wE I e) 0 V, J, P) (some (.int 0)) (SH, wR (wE (xu I 347 2 1) e) 0 V, J, P) := by
  refine x_enter cqX11_person [some (.ref 347), some (.int x), some (.int w)] rfl (by simp [lg_sl, Value.category]) ?_
  refine r_aload_n dX11_person_0 rfl ?_
  refine r_iconst (v := 0) dX11_person_1 (by decide) ?_
  refine r_putIv dX11_person_2 flX11_193 ⟨_, _, _, rfl, Or.inl rfl⟩ sh_347 (by decide) rfl rfl rfl ((wR_xo _ _ _ (by decide) _ _).trans (congrArg (fun z => wR z _ _) ((wE_c _ _ _ (by decide)).trans (congrArg (fun z => wE z _) hI)))) ?_
  refine r_aload_n dX11_person_5 rfl ?_
  refine r_iload_n dX11_person_6 rfl ?_
  refine r_cV1i dX11_person_7 vlX11_456 sh_347 (Nat.le_of_ble_eq_true rfl) (k_rPer_f (b := 0) h d) ?_
  refine r_if_ne 19 dX11_person_10 (by decide) (fun c10 => ?_) (fun c10 => ?_)
  · exact absurd c10 (by decide)
  · refine r_aload_n dX11_person_13 rfl ?_
    refine r_iconst (v := 1) dX11_person_14 (by decide) ?_
    refine r_cV1i dX11_person_15 vlX11_459 sh_347 (Nat.le_of_ble_eq_true rfl) (k_fails (b := 0) 1 d) ?_
    exact r_iret dX11_person_18 rfl rfl rfl (by rw [← hI, xu_xu])
set_option maxHeartbeats 1000000 in
theorem k_rperson {E : xCl} {ex : Bool} {I I0 V : Nat → Nat → Int32} {e : Int32} {J : Nat → Nat → Int64} {P : Nat → Nat → Nat} (hP : Pok P) (hI : xu I 347 2 0 = I0)  {n : Nat} (hv : Vok V n) {np : Nat} (hnp : np ≤ 6) (h12 : I0 347 12 = nI np) {x w : Int32} (h : ¬ x < 0 ∧ ¬ I0 347 12 ≤ x) (hw : ¬ w < 0) (hw5 : w ≤ 5) (d : Nat) : xEx E ex (d + 3) yX11_person [.ref 347, .int x, .int w] (SH, wR (wE I e) 0 V, J, P) (some (.int (rPs V I0 n x w))) (SH, wR (wE I0 e) 0 V, J, P) := by
  refine x_enter cqX11_person [some (.ref 347), some (.int x), some (.int w)] rfl (by simp [lg_sl, Value.category]) ?_
  refine r_aload_n dX11_person_0 rfl ?_
  refine r_iconst (v := 0) dX11_person_1 (by decide) ?_
  refine r_putIv dX11_person_2 flX11_193 ⟨_, _, _, rfl, Or.inl rfl⟩ sh_347 (by decide) rfl rfl rfl ((wR_xo _ _ _ (by decide) _ _).trans (congrArg (fun z => wR z _ _) ((wE_c _ _ _ (by decide)).trans (congrArg (fun z => wE z _) hI)))) ?_
  refine r_aload_n dX11_person_5 rfl ?_
  refine r_iload_n dX11_person_6 rfl ?_
  refine r_cV1i dX11_person_7 vlX11_456 sh_347 (Nat.le_of_ble_eq_true rfl) (k_rPer_t (b := 0) h (d + 1)) ?_
  refine r_if_ne 19 dX11_person_10 (by decide) (fun c10 => ?_) (fun c10 => ?_)
  · refine r_iload_n dX11_person_19 rfl ?_
    by_cases q20_0 : w = 0
    · refine r_tsI 60 dX11_person_20 (by rw [q20_0]; decide) (by rw [q20_0]; decide) (off := 40) (by rw [q20_0]; rfl) (by decide) ?_
      refine r_aload_n dX11_person_60 rfl ?_
      refine r_getR dX11_person_61 flX11_100 sh_347 (by decide) rfl (pf_347_53 hP) ?_
      refine r_iload_n dX11_person_64 rfl ?_
      refine r_ialv dX11_person_65 sh_376 (iz6 (in6p hnp h12 h.1 h.2)) (rZ1 _ _ (in6p hnp h12 h.1 h.2)) ?_
      exact r_iret dX11_person_66 rfl rfl (by rw [q20_0]; rfl) rfl
    by_cases q20_1 : w = 1
    · refine r_tsI 67 dX11_person_20 (by rw [q20_1]; decide) (by rw [q20_1]; decide) (off := 47) (by rw [q20_1]; rfl) (by decide) ?_
      refine r_aload_n dX11_person_67 rfl ?_
      refine r_getR dX11_person_68 flX11_36 sh_347 (by decide) rfl (pf_347_25 hP) ?_
      refine r_iload_n dX11_person_71 rfl ?_
      refine r_ialv dX11_person_72 sh_355 (iz6 (in6p hnp h12 h.1 h.2)) ((wR_o _ _ _ (by decide) _).trans (wE_o _ _ (by decide) _)) ?_
      exact r_iret dX11_person_73 rfl rfl (by rw [q20_1]; rfl) rfl
    by_cases q20_2 : w = 2
    · refine r_tsI 74 dX11_person_20 (by rw [q20_2]; decide) (by rw [q20_2]; decide) (off := 54) (by rw [q20_2]; rfl) (by decide) ?_
      refine r_aload_n dX11_person_74 rfl ?_
      refine r_getR dX11_person_75 flX11_30 sh_347 (by decide) rfl (pf_347_23 hP) ?_
      refine r_iload_n dX11_person_78 rfl ?_
      refine r_ialv dX11_person_79 sh_353 (iz6 (in6p hnp h12 h.1 h.2)) ((wR_o _ _ _ (by decide) _).trans (wE_o _ _ (by decide) _)) ?_
      exact r_iret dX11_person_80 rfl rfl (by rw [q20_2]; rfl) rfl
    by_cases q20_3 : w = 3
    · refine r_tsI 81 dX11_person_20 (by rw [q20_3]; decide) (by rw [q20_3]; decide) (off := 61) (by rw [q20_3]; rfl) (by decide) ?_
      refine r_aload_n dX11_person_81 rfl ?_
      refine r_getR dX11_person_82 flX11_103 sh_347 (by decide) rfl (pf_347_54 hP) ?_
      refine r_iload_n dX11_person_85 rfl ?_
      refine r_ialv dX11_person_86 sh_377 (iz6 (in6p hnp h12 h.1 h.2)) (rZ2 _ _ (in6p hnp h12 h.1 h.2)) ?_
      exact r_iret dX11_person_87 rfl rfl (by rw [q20_3]; rfl) rfl
    by_cases q20_4 : w = 4
    · refine r_tsI 88 dX11_person_20 (by rw [q20_4]; decide) (by rw [q20_4]; decide) (off := 68) (by rw [q20_4]; rfl) (by decide) ?_
      refine r_aload_n dX11_person_88 rfl ?_
      refine r_iload_n dX11_person_89 rfl ?_
      refine r_iconst (v := (-1)) dX11_person_90 (by decide) ?_
      refine r_cV2i dX11_person_91 vlX11_462 sh_347 (Nat.le_of_ble_eq_true rfl) (k_sumOwed hP hv (pos_m1 h.1) m1_m1 d) ?_
      exact r_iret dX11_person_94 rfl rfl (by rw [q20_4]; rfl) rfl
    by_cases q20_5 : w = 5
    · refine r_tsI 95 dX11_person_20 (by rw [q20_5]; decide) (by rw [q20_5]; decide) (off := 75) (by rw [q20_5]; rfl) (by decide) ?_
      refine r_aload_n dX11_person_95 rfl ?_
      refine r_iconst (v := (-1)) dX11_person_96 (by decide) ?_
      refine r_iload_n dX11_person_97 rfl ?_
      refine r_cV2i dX11_person_98 vlX11_462 sh_347 (Nat.le_of_ble_eq_true rfl) (k_sumOwed hP hv m1_m1 (pos_m1 h.1) d) ?_
      exact r_iret dX11_person_101 rfl rfl (by rw [q20_5]; rfl) rfl
    refine r_tsO 102 dX11_person_20 (tsout_0_5 q20_0 q20_1 q20_2 q20_3 q20_4 q20_5) (by decide) ?_
    refine r_aload_n dX11_person_102 rfl ?_
    refine r_iconst (v := 2) dX11_person_103 (by decide) ?_
    refine r_cV1i dX11_person_104 vlX11_459 sh_347 (Nat.le_of_ble_eq_true rfl) (k_fails (b := 0) 2 (d + 1)) ?_
    exact absurd (tsout_0_5 q20_0 q20_1 q20_2 q20_3 q20_4 q20_5) (fun z => by simp only [Int32.lt_iff_toInt_lt, Int32.le_iff_toInt_le] at hw hw5; have e0 : (0 : Int32).toInt = 0 := rfl; have e5 : (5 : Int32).toInt = 5 := rfl; omega)
  · exact absurd c10 (by decide)
set_option maxHeartbeats 1000000 in
theorem k_rperson_w {E : xCl} {ex : Bool} {I I0 V : Nat → Nat → Int32} {e : Int32} {J : Nat → Nat → Int64} {P : Nat → Nat → Nat} (hP : Pok P) (hI : xu I 347 2 0 = I0)  {x w : Int32} (h : ¬ x < 0 ∧ ¬ I0 347 12 ≤ x) (hw : w.toInt < 0 ∨ 5 < w.toInt) (d : Nat) : xEx E ex (d + 2) yX11_person [.ref 347, .int x, .int w] (SH, wR (wE I e) 0 V, J, P) (some (.int 0)) (SH, wR (wE (xu I 347 2 2) e) 0 V, J, P) := by
  refine x_enter cqX11_person [some (.ref 347), some (.int x), some (.int w)] rfl (by simp [lg_sl, Value.category]) ?_
  refine r_aload_n dX11_person_0 rfl ?_
  refine r_iconst (v := 0) dX11_person_1 (by decide) ?_
  refine r_putIv dX11_person_2 flX11_193 ⟨_, _, _, rfl, Or.inl rfl⟩ sh_347 (by decide) rfl rfl rfl ((wR_xo _ _ _ (by decide) _ _).trans (congrArg (fun z => wR z _ _) ((wE_c _ _ _ (by decide)).trans (congrArg (fun z => wE z _) hI)))) ?_
  refine r_aload_n dX11_person_5 rfl ?_
  refine r_iload_n dX11_person_6 rfl ?_
  refine r_cV1i dX11_person_7 vlX11_456 sh_347 (Nat.le_of_ble_eq_true rfl) (k_rPer_t (b := 0) h d) ?_
  refine r_if_ne 19 dX11_person_10 (by decide) (fun c10 => ?_) (fun c10 => ?_)
  · refine r_iload_n dX11_person_19 rfl ?_
    refine r_tsO 102 dX11_person_20 hw (by decide) ?_
    refine r_aload_n dX11_person_102 rfl ?_
    refine r_iconst (v := 2) dX11_person_103 (by decide) ?_
    refine r_cV1i dX11_person_104 vlX11_459 sh_347 (Nat.le_of_ble_eq_true rfl) (k_fails (b := 0) 2 d) ?_
    exact r_iret dX11_person_107 rfl rfl rfl (by rw [← hI, xu_xu])
  · exact absurd c10 (by decide)
set_option maxHeartbeats 2000000 in
theorem k_rstrand {E : xCl} {ex : Bool} {I I0 V : Nat → Nat → Int32} {e : Int32} {J : Nat → Nat → Int64} {P : Nat → Nat → Nat} (hP : Pok P) (hI : xu I 347 2 0 = I0)  {n : Nat} (hv : Vok V n) {L : Nat → (Nat → Int64) → Int64} (hL : LwR I0 L) (h7 : L7 L) (s w : Int32) (d : Nat) : ∃ e' J', xEx E ex (d + 6) yX11_strand [.ref 347, .int s, .int w] (SH, wR (wE I e) 0 V, J, P) (some (.int (sSr V L s w))) (SH, wR (wE I0 e') 0 V, J', P) ∧ JokR J J' := by
  refine QR.use (F := fun z => wR z 0 V) (I := I0) (x_enterq (d := d + 5) cqX11_strand [some (.ref 347), some (.int s), some (.int w)] rfl (by simp [lg_sl, Value.category]) ?_)
  refine r_aload_n dX11_strand_0 rfl ?_
  refine r_iconst (v := 0) dX11_strand_1 (by decide) ?_
  refine r_putIv dX11_strand_2 flX11_193 ⟨_, _, _, rfl, Or.inl rfl⟩ sh_347 (by decide) rfl rfl rfl ((wR_xo _ _ _ (by decide) _ _).trans (congrArg (fun z => wR z _ _) ((wE_c _ _ _ (by decide)).trans (congrArg (fun z => wE z _) hI)))) ?_
  refine r_aload_n dX11_strand_5 rfl ?_
  refine r_iload_n dX11_strand_6 rfl ?_
  by_cases h7_ : sSt V s
  · refine r_cV1i dX11_strand_7 vlX11_465 sh_347 (Nat.le_of_ble_eq_true rfl) (k_rStr_t hP hv h7_ (d + 4)) ?_
    refine r_if_ne 15 dX11_strand_10 (by decide) (fun c10 => ?_) (fun c10 => ?_)
    · refine r_iload_n dX11_strand_15 rfl ?_
      by_cases q16_0 : w = 0
      · refine r_tsI 68 dX11_strand_16 (by rw [q16_0]; decide) (by rw [q16_0]; decide) (off := 52) (by rw [q16_0]; rfl) (by decide) ?_
        refine r_aload_n dX11_strand_68 rfl ?_
        refine r_getR dX11_strand_69 flX11_109 sh_347 (by decide) rfl (pf_347_56 hP) ?_
        refine r_iload_n dX11_strand_72 rfl ?_
        refine r_ialv dX11_strand_73 sh_379 (vin12 h7_.1 h7_.2.2) (rR3 _ _ (vin12 h7_.1 h7_.2.2)) ?_
        exact r_iretq dX11_strand_74 rfl rfl (by rw [sSr, if_pos h7_, if_pos q16_0]; exact QR.mk (F := fun z => wR z 0 V) (JokR.rf J))
      by_cases q16_1 : w = 1
      · refine r_tsI 75 dX11_strand_16 (by rw [q16_1]; decide) (by rw [q16_1]; decide) (off := 59) (by rw [q16_1]; rfl) (by decide) ?_
        refine r_aload_n dX11_strand_75 rfl ?_
        refine r_getR dX11_strand_76 flX11_112 sh_347 (by decide) rfl (pf_347_57 hP) ?_
        refine r_iload_n dX11_strand_79 rfl ?_
        refine r_ialv dX11_strand_80 sh_380 (vin12 h7_.1 h7_.2.2) (rR4 _ _ (vin12 h7_.1 h7_.2.2)) ?_
        exact r_iretq dX11_strand_81 rfl rfl (by rw [sSr, if_pos h7_, if_neg (by rw [q16_1]; decide), if_pos q16_1]; exact QR.mk (F := fun z => wR z 0 V) (JokR.rf J))
      by_cases q16_2 : w = 2
      · refine r_tsI 82 dX11_strand_16 (by rw [q16_2]; decide) (by rw [q16_2]; decide) (off := 66) (by rw [q16_2]; rfl) (by decide) ?_
        refine r_aload_n dX11_strand_82 rfl ?_
        refine r_getR dX11_strand_83 flX11_121 sh_347 (by decide) rfl (pf_347_60 hP) ?_
        refine r_iload_n dX11_strand_86 rfl ?_
        refine r_ialv dX11_strand_87 sh_383 (iz12 (vin12 h7_.1 h7_.2.2)) (rZ5 _ _ (vin12 h7_.1 h7_.2.2)) ?_
        exact r_iretq dX11_strand_88 rfl rfl (by rw [sSr, if_pos h7_, if_neg (by rw [q16_2]; decide), if_neg (by rw [q16_2]; decide), if_pos q16_2]; exact QR.mk (F := fun z => wR z 0 V) (JokR.rf J))
      by_cases q16_3 : w = 3
      · refine r_tsI 89 dX11_strand_16 (by rw [q16_3]; decide) (by rw [q16_3]; decide) (off := 73) (by rw [q16_3]; rfl) (by decide) ?_
        refine r_aload_n dX11_strand_89 rfl ?_
        refine r_getR dX11_strand_90 flX11_124 sh_347 (by decide) rfl (pf_347_61 hP) ?_
        refine r_iload_n dX11_strand_93 rfl ?_
        refine r_ialv dX11_strand_94 sh_384 (iz12 (vin12 h7_.1 h7_.2.2)) (rZ6 _ _ (vin12 h7_.1 h7_.2.2)) ?_
        exact r_iretq dX11_strand_95 rfl rfl (by rw [sSr, if_pos h7_, if_neg (by rw [q16_3]; decide), if_neg (by rw [q16_3]; decide), if_neg (by rw [q16_3]; decide), if_pos q16_3]; exact QR.mk (F := fun z => wR z 0 V) (JokR.rf J))
      by_cases q16_4 : w = 4
      · refine r_tsI 96 dX11_strand_16 (by rw [q16_4]; decide) (by rw [q16_4]; decide) (off := 80) (by rw [q16_4]; rfl) (by decide) ?_
        refine r_aload_n dX11_strand_96 rfl ?_
        refine r_getR dX11_strand_97 flX11_118 sh_347 (by decide) rfl (pf_347_59 hP) ?_
        refine r_iload_n dX11_strand_100 rfl ?_
        refine r_ialv dX11_strand_101 sh_382 (vin12 h7_.1 h7_.2.2) (rR7 _ _ (vin12 h7_.1 h7_.2.2)) ?_
        exact r_iretq dX11_strand_102 rfl rfl (by rw [sSr, if_pos h7_, if_neg (by rw [q16_4]; decide), if_neg (by rw [q16_4]; decide), if_neg (by rw [q16_4]; decide), if_neg (by rw [q16_4]; decide), if_pos q16_4]; exact QR.mk (F := fun z => wR z 0 V) (JokR.rf J))
      by_cases q16_5 : w = 5
      · refine r_tsI 103 dX11_strand_16 (by rw [q16_5]; decide) (by rw [q16_5]; decide) (off := 87) (by rw [q16_5]; rfl) (by decide) ?_
        refine r_aload_n dX11_strand_103 rfl ?_
        refine r_getR dX11_strand_104 flX11_127 sh_347 (by decide) rfl (pf_347_62 hP) ?_
        refine r_iload_n dX11_strand_107 rfl ?_
        refine r_ialv dX11_strand_108 sh_385 (iz12 (vin12 h7_.1 h7_.2.2)) (rZ9 _ _ (vin12 h7_.1 h7_.2.2)) ?_
        exact r_iretq dX11_strand_109 rfl rfl (by rw [sSr, if_pos h7_, if_neg (by rw [q16_5]; decide), if_neg (by rw [q16_5]; decide), if_neg (by rw [q16_5]; decide), if_neg (by rw [q16_5]; decide), if_neg (by rw [q16_5]; decide), if_pos q16_5]; exact QR.mk (F := fun z => wR z 0 V) (JokR.rf J))
      by_cases q16_6 : w = 6
      · refine r_tsI 110 dX11_strand_16 (by rw [q16_6]; decide) (by rw [q16_6]; decide) (off := 94) (by rw [q16_6]; rfl) (by decide) ?_
        refine r_aload_n dX11_strand_110 rfl ?_
        refine r_iconst (v := 0) dX11_strand_111 (by decide) ?_
        refine r_iload_n dX11_strand_112 rfl ?_
        refine r_iconst (v := 0) dX11_strand_113 (by decide) ?_
        obtain ⟨e9, J9, hx9, hj9⟩ := k_bearOf0 (E := E) (ex := ex) (I := I0) (V := V) (e := e) (J := J) hP (b := 0) (by decide) hv hL h7 (x := s) (vin12 h7_.1 h7_.2.2) ⟨fun z => z.2, fun z => ⟨h7_, z⟩⟩ d
        refine r_cV3i dX11_strand_114 vlX11_439 sh_347 (Nat.le_of_ble_eq_true rfl) hx9 ?_
        exact r_iretq dX11_strand_117 rfl rfl (by rw [sSr, if_pos h7_, if_neg (by rw [q16_6]; decide), if_neg (by rw [q16_6]; decide), if_neg (by rw [q16_6]; decide), if_neg (by rw [q16_6]; decide), if_neg (by rw [q16_6]; decide), if_neg (by rw [q16_6]; decide), if_pos q16_6]; exact QR.mk (F := fun z => wR z 0 V) hj9)
      by_cases q16_7 : w = 7
      · refine r_tsI 118 dX11_strand_16 (by rw [q16_7]; decide) (by rw [q16_7]; decide) (off := 102) (by rw [q16_7]; rfl) (by decide) ?_
        refine r_aload_n dX11_strand_118 rfl ?_
        refine r_getR dX11_strand_119 flX11_130 sh_347 (by decide) rfl (pf_347_63 hP) ?_
        refine r_iload_n dX11_strand_122 rfl ?_
        refine r_ialv dX11_strand_123 sh_386 (iz12 (vin12 h7_.1 h7_.2.2)) (rZ10 _ _ (vin12 h7_.1 h7_.2.2)) ?_
        exact r_iretq dX11_strand_124 rfl rfl (by rw [sSr, if_pos h7_, if_neg (by rw [q16_7]; decide), if_neg (by rw [q16_7]; decide), if_neg (by rw [q16_7]; decide), if_neg (by rw [q16_7]; decide), if_neg (by rw [q16_7]; decide), if_neg (by rw [q16_7]; decide), if_neg (by rw [q16_7]; decide), if_pos q16_7]; exact QR.mk (F := fun z => wR z 0 V) (JokR.rf J))
      by_cases q16_8 : w = 8
      · refine r_tsI 125 dX11_strand_16 (by rw [q16_8]; decide) (by rw [q16_8]; decide) (off := 109) (by rw [q16_8]; rfl) (by decide) ?_
        refine r_aload_n dX11_strand_125 rfl ?_
        refine r_getR dX11_strand_126 flX11_115 sh_347 (by decide) rfl (pf_347_58 hP) ?_
        refine r_iload_n dX11_strand_129 rfl ?_
        refine r_ialv dX11_strand_130 sh_381 (vin12 h7_.1 h7_.2.2) (rR8 _ _ (vin12 h7_.1 h7_.2.2)) ?_
        exact r_iretq dX11_strand_131 rfl rfl (by rw [sSr, if_pos h7_, if_neg (by rw [q16_8]; decide), if_neg (by rw [q16_8]; decide), if_neg (by rw [q16_8]; decide), if_neg (by rw [q16_8]; decide), if_neg (by rw [q16_8]; decide), if_neg (by rw [q16_8]; decide), if_neg (by rw [q16_8]; decide), if_neg (by rw [q16_8]; decide), if_pos q16_8]; exact QR.mk (F := fun z => wR z 0 V) (JokR.rf J))
      refine r_tsO 132 dX11_strand_16 (tsout_0_8 q16_0 q16_1 q16_2 q16_3 q16_4 q16_5 q16_6 q16_7 q16_8) (by decide) ?_
      refine r_iconst (v := (-1)) dX11_strand_132 (by decide) ?_
      exact r_iretq dX11_strand_133 rfl rfl (by rw [sSr, if_pos h7_, if_neg q16_0, if_neg q16_1, if_neg q16_2, if_neg q16_3, if_neg q16_4, if_neg q16_5, if_neg q16_6, if_neg q16_7, if_neg q16_8]; exact QR.mk (F := fun z => wR z 0 V) (JokR.rf J))
    · exact absurd c10 (by decide)
  · refine r_cV1i dX11_strand_7 vlX11_465 sh_347 (Nat.le_of_ble_eq_true rfl) (k_rStr_f hP hv h7_ (d + 4)) ?_
    refine r_if_ne 15 dX11_strand_10 (by decide) (fun c10 => ?_) (fun c10 => ?_)
    · exact absurd c10 (by decide)
    · refine r_iconst (v := (-1)) dX11_strand_13 (by decide) ?_
      exact r_iretq dX11_strand_14 rfl rfl (by rw [sSr, if_neg h7_]; exact QR.mk (F := fun z => wR z 0 V) (JokR.rf J))
def rCr (V I : Nat → Nat → Int32) (c w : Int32) : Int32 := if c < 0 then -1 else if c < I 347 14 then (if w = 0 then I 363 c.toNatClampNeg else if w = 1 then I 364 c.toNatClampNeg else if w = 2 then I 365 c.toNatClampNeg else if w = 3 then V 11 c.toNatClampNeg else -1) else -1
theorem in8p {x : Int32} {p : Nat} (hp : p ≤ 8) {M : Int32} (hM : M = nI p) (h0 : ¬ x < 0) (h1 : x < M) : vp_in x 8 := by
  subst hM
  rw [vp_in_iff]
  simp only [Int32.lt_iff_toInt_lt, Int32.toInt_zero, nI_toInt (show p < 2 ^ 31 by omega)] at h0 h1
  omega
set_option maxHeartbeats 1000000 in
theorem k_rcrossing {E : xCl} {ex : Bool} {I I0 V : Nat → Nat → Int32} {e : Int32} {J : Nat → Nat → Int64} {P : Nat → Nat → Nat} (hP : Pok P) (hI : xu I 347 2 0 = I0)  {m : Nat} (hm : m ≤ 8) (hc : I0 347 14 = nI m) (c w : Int32) (d : Nat) : xEx E ex (d + 1) yX11_crossing [.ref 347, .int c, .int w] (SH, wR (wE I e) 0 V, J, P) (some (.int (rCr V I0 c w))) (SH, wR (wE I0 e) 0 V, J, P) := by
  refine x_enter cqX11_crossing [some (.ref 347), some (.int c), some (.int w)] rfl (by simp [lg_sl, Value.category]) ?_
  refine r_aload_n dX11_crossing_0 rfl ?_
  refine r_iconst (v := 0) dX11_crossing_1 (by decide) ?_
  refine r_putIv dX11_crossing_2 flX11_193 ⟨_, _, _, rfl, Or.inl rfl⟩ sh_347 (by decide) rfl rfl rfl ((wR_xo _ _ _ (by decide) _ _).trans (congrArg (fun z => wR z _ _) ((wE_c _ _ _ (by decide)).trans (congrArg (fun z => wE z _) hI)))) ?_
  refine r_iload_n dX11_crossing_5 rfl ?_
  refine r_if_lt 17 dX11_crossing_6 (by decide) (fun c6 => ?_) (fun c6 => ?_)
  · refine r_iconst (v := (-1)) dX11_crossing_17 (by decide) ?_
    exact r_iret dX11_crossing_18 rfl rfl (by rw [rCr, if_pos c6]) rfl
  · refine r_iload_n dX11_crossing_9 rfl ?_
    refine r_aload_n dX11_crossing_10 rfl ?_
    refine r_getIv dX11_crossing_11 flX11_276 sh_347 (by decide) rfl ((wR_o _ _ _ (by decide) _).trans (wE_f _ _ (by decide))) ?_
    refine r_ic_lt 19 dX11_crossing_14 (by decide) (fun c14 => ?_) (fun c14 => ?_)
    · refine r_iload_n dX11_crossing_19 rfl ?_
      refine r_if_ne 32 dX11_crossing_20 (by decide) (fun c20 => ?_) (fun c20 => ?_)
      · refine r_iload_n dX11_crossing_32 rfl ?_
        refine r_iconst (v := 1) dX11_crossing_33 (by decide) ?_
        refine r_ic_ne 46 dX11_crossing_34 (by decide) (fun c34 => ?_) (fun c34 => ?_)
        · refine r_iload_n dX11_crossing_46 rfl ?_
          refine r_iconst (v := 2) dX11_crossing_47 (by decide) ?_
          refine r_ic_ne 60 dX11_crossing_48 (by decide) (fun c48 => ?_) (fun c48 => ?_)
          · refine r_iload_n dX11_crossing_60 rfl ?_
            refine r_iconst (v := 3) dX11_crossing_61 (by decide) ?_
            refine r_ic_ne 74 dX11_crossing_62 (by decide) (fun c62 => ?_) (fun c62 => ?_)
            · refine r_iconst (v := (-1)) dX11_crossing_74 (by decide) ?_
              exact r_iret dX11_crossing_75 rfl rfl (by rw [rCr, if_neg c6, if_pos c14, if_neg c20, if_neg c34, if_neg c48, if_neg c62]) rfl
            · refine r_aload_n dX11_crossing_65 rfl ?_
              refine r_getR dX11_crossing_66 flX11_136 sh_347 (by decide) rfl (pf_347_65 hP) ?_
              refine r_iload_n dX11_crossing_69 rfl ?_
              refine r_ialv dX11_crossing_70 sh_388 (iz8 (in8p hm hc c6 c14)) (rZ11 _ _ (in8p hm hc c6 c14)) ?_
              refine r_goto 75 dX11_crossing_71 (by decide) ?_
              exact r_iret dX11_crossing_75 rfl rfl (by rw [rCr, if_neg c6, if_pos c14, if_neg c20, if_neg c34, if_neg c48, if_pos c62]) rfl
          · refine r_aload_n dX11_crossing_51 rfl ?_
            refine r_getR dX11_crossing_52 flX11_66 sh_347 (by decide) rfl (pf_347_35 hP) ?_
            refine r_iload_n dX11_crossing_55 rfl ?_
            refine r_ialv dX11_crossing_56 sh_365 (iz8 (in8p hm hc c6 c14)) ((wR_o _ _ _ (by decide) _).trans (wE_o _ _ (by decide) _)) ?_
            refine r_goto 75 dX11_crossing_57 (by decide) ?_
            exact r_iret dX11_crossing_75 rfl rfl (by rw [rCr, if_neg c6, if_pos c14, if_neg c20, if_neg c34, if_pos c48]) rfl
        · refine r_aload_n dX11_crossing_37 rfl ?_
          refine r_getR dX11_crossing_38 flX11_63 sh_347 (by decide) rfl (pf_347_34 hP) ?_
          refine r_iload_n dX11_crossing_41 rfl ?_
          refine r_ialv dX11_crossing_42 sh_364 (iz8 (in8p hm hc c6 c14)) ((wR_o _ _ _ (by decide) _).trans (wE_o _ _ (by decide) _)) ?_
          refine r_goto 75 dX11_crossing_43 (by decide) ?_
          exact r_iret dX11_crossing_75 rfl rfl (by rw [rCr, if_neg c6, if_pos c14, if_neg c20, if_pos c34]) rfl
      · refine r_aload_n dX11_crossing_23 rfl ?_
        refine r_getR dX11_crossing_24 flX11_60 sh_347 (by decide) rfl (pf_347_33 hP) ?_
        refine r_iload_n dX11_crossing_27 rfl ?_
        refine r_ialv dX11_crossing_28 sh_363 (iz8 (in8p hm hc c6 c14)) ((wR_o _ _ _ (by decide) _).trans (wE_o _ _ (by decide) _)) ?_
        refine r_goto 75 dX11_crossing_29 (by decide) ?_
        exact r_iret dX11_crossing_75 rfl rfl (by rw [rCr, if_neg c6, if_pos c14, if_pos c20]) rfl
    · refine r_iconst (v := (-1)) dX11_crossing_17 (by decide) ?_
      exact r_iret dX11_crossing_18 rfl rfl (by rw [rCr, if_neg c6, if_neg c14]) rfl
set_option maxHeartbeats 2000000 in
theorem k_rbears {E : xCl} {ex : Bool} {I I0 V : Nat → Nat → Int32} {e : Int32} {J : Nat → Nat → Int64} {P : Nat → Nat → Nat} (hP : Pok P) (hI : xu I 347 2 0 = I0)  {n : Nat} (hv : Vok V n) (hk : Tok V n) {L : Nat → (Nat → Int64) → Int64} (hL : LwR I0 L) (h7 : L7 L) (d : Nat) : ∃ e' J', xEx E ex (d + 7) yX11_bears [.ref 347] (SH, wR (wE I e) 0 V, J, P) (some (.int (sBr V L n))) (SH, wR (wE I0 e') 0 V, J', P) ∧ JokR J J' := by
  refine QR.use (F := fun z => wR z 0 V) (I := I0) (x_enterq (d := d + 6) cqX11_bears [some (.ref 347)] rfl (by simp [lg_sl, Value.category]) ?_)
  refine r_aload_n dX11_bears_0 rfl ?_
  refine r_iconst (v := 0) dX11_bears_1 (by decide) ?_
  refine r_putIv dX11_bears_2 flX11_193 ⟨_, _, _, rfl, Or.inl rfl⟩ sh_347 (by decide) rfl rfl rfl ((wR_xo _ _ _ (by decide) _ _).trans (congrArg (fun z => wR z _ _) ((wE_c _ _ _ (by decide)).trans (congrArg (fun z => wE z _) hI)))) ?_
  refine r_aload_n dX11_bears_5 rfl ?_
  refine r_iconst (v := 0) dX11_bears_6 (by decide) ?_
  obtain ⟨e9, J9, hx9, hj9⟩ := k_rbridge (E := E) (ex := ex) (I := I0) (V := V) (e := e) (J := J) hP (b := 0) (by decide) hv hk hL h7 d
  refine r_cV1i dX11_bears_7 vlX11_443 sh_347 (Nat.le_of_ble_eq_true rfl) hx9 ?_
  exact r_iretq dX11_bears_10 rfl rfl (QR.mk (F := fun z => wR z 0 V) hj9)
def rSag (w B : Int32) : Int32 := if B = 0 then 9999 else if w * 100 / B ≤ 9999 then w * 100 / B else 9999
set_option maxHeartbeats 1000000 in
theorem k_rsagOf {E : xCl} {ex : Bool} {I : Nat → Nat → Int32} {J : Nat → Nat → Int64} {P : Nat → Nat → Nat} (w B : Int32) (d : Nat) : xEx E ex (d + 1) yX11_sagOf [.ref 347, .int w, .int B] (SH, I, J, P) (some (.int (rSag w B))) (SH, I, J, P) := by
  refine x_enter cqX11_sagOf [some (.ref 347), some (.int w), some (.int B)] rfl (by simp [lg_sl, Value.category]) ?_
  refine r_iload_n dX11_sagOf_0 rfl ?_
  refine r_if_eq 16 dX11_sagOf_1 (by decide) (fun c1 => ?_) (fun c1 => ?_)
  · refine r_sipush (v := 9999) dX11_sagOf_16 (by decide) ?_
    refine r_goto 28 dX11_sagOf_19 (by decide) ?_
    exact r_iret dX11_sagOf_28 rfl rfl (by rw [rSag, if_pos c1]) rfl
  · refine r_iload_n dX11_sagOf_4 rfl ?_
    refine r_bipush (v := 100) dX11_sagOf_5 (by decide) ?_
    refine r_imul dX11_sagOf_7 ?_
    refine r_iload_n dX11_sagOf_8 rfl ?_
    refine r_idiv dX11_sagOf_9 c1 ?_
    refine r_sipush (v := 9999) dX11_sagOf_10 (by decide) ?_
    refine r_ic_le 22 dX11_sagOf_13 (by decide) (fun c13 => ?_) (fun c13 => ?_)
    · refine r_iload_n dX11_sagOf_22 rfl ?_
      refine r_bipush (v := 100) dX11_sagOf_23 (by decide) ?_
      refine r_imul dX11_sagOf_25 ?_
      refine r_iload_n dX11_sagOf_26 rfl ?_
      refine r_idiv dX11_sagOf_27 c1 ?_
      exact r_iret dX11_sagOf_28 rfl rfl (by rw [rSag, if_neg c1, if_pos c13]) rfl
    · refine r_sipush (v := 9999) dX11_sagOf_16 (by decide) ?_
      refine r_goto 28 dX11_sagOf_19 (by decide) ?_
      exact r_iret dX11_sagOf_28 rfl rfl (by rw [rSag, if_neg c1, if_neg c13]) rfl
set_option maxHeartbeats 2000000 in
theorem k_rsag {E : xCl} {ex : Bool} {I I0 V : Nat → Nat → Int32} {e : Int32} {J : Nat → Nat → Int64} {P : Nat → Nat → Nat} (hP : Pok P) (hI : xu I 347 2 0 = I0)  {n : Nat} (hv : Vok V n) (hk : Tok V n) {L : Nat → (Nat → Int64) → Int64} (hL : LwR I0 L) (h7 : L7 L) (w : Int32) (d : Nat) : ∃ e' J', xEx E ex (d + 7) yX11_sag [.ref 347, .int w] (SH, wR (wE I e) 0 V, J, P) (some (.int (if ¬ w < 1 ∧ ¬ 999 < w then rSag w (sBr V L n) else -1))) (SH, wR (wE I0 e') 0 V, J', P) ∧ JokR J J' := by
  refine QR.use (F := fun z => wR z 0 V) (I := I0) (x_enterq (d := d + 6) cqX11_sag [some (.ref 347), some (.int w)] rfl (by simp [lg_sl, Value.category]) ?_)
  refine r_aload_n dX11_sag_0 rfl ?_
  refine r_iconst (v := 0) dX11_sag_1 (by decide) ?_
  refine r_putIv dX11_sag_2 flX11_193 ⟨_, _, _, rfl, Or.inl rfl⟩ sh_347 (by decide) rfl rfl rfl ((wR_xo _ _ _ (by decide) _ _).trans (congrArg (fun z => wR z _ _) ((wE_c _ _ _ (by decide)).trans (congrArg (fun z => wE z _) hI)))) ?_
  refine r_iload_n dX11_sag_5 rfl ?_
  refine r_iconst (v := 1) dX11_sag_6 (by decide) ?_
  refine r_sipush (v := 999) dX11_sag_7 (by decide) ?_
  by_cases h10 : ¬ w < 1 ∧ ¬ 999 < w
  · refine r_cS3i dX11_sag_10 slX11_238 (Nat.le_of_ble_eq_true rfl) (k_isIn_t h10 (d + 5)) ?_
    refine r_if_eq 29 dX11_sag_13 (by decide) (fun c13 => ?_) (fun c13 => ?_)
    · exact absurd c13 (by decide)
    · refine r_aload_n dX11_sag_16 rfl ?_
      refine r_iload_n dX11_sag_17 rfl ?_
      refine r_aload_n dX11_sag_18 rfl ?_
      refine r_iconst (v := 0) dX11_sag_19 (by decide) ?_
      obtain ⟨e9, J9, hx9, hj9⟩ := k_rbridge (E := E) (ex := ex) (I := I0) (V := V) (e := e) (J := J) hP (b := 0) (by decide) hv hk hL h7 d
      refine r_cV1i dX11_sag_20 vlX11_443 sh_347 (Nat.le_of_ble_eq_true rfl) hx9 ?_
      refine r_cV2i dX11_sag_23 vlX11_470 sh_347 (Nat.le_of_ble_eq_true rfl) (k_rsagOf _ _ (d + 5)) ?_
      refine r_goto 30 dX11_sag_26 (by decide) ?_
      exact r_iretq dX11_sag_30 rfl rfl (by rw [if_pos h10]; exact QR.mk (F := fun z => wR z 0 V) hj9)
  · refine r_cS3i dX11_sag_10 slX11_238 (Nat.le_of_ble_eq_true rfl) (k_isIn_f h10 (d + 5)) ?_
    refine r_if_eq 29 dX11_sag_13 (by decide) (fun c13 => ?_) (fun c13 => ?_)
    · refine r_iconst (v := (-1)) dX11_sag_29 (by decide) ?_
      exact r_iretq dX11_sag_30 rfl rfl (by rw [if_neg h10]; exact QR.mk (F := fun z => wR z 0 V) (JokR.rf J))
    · exact absurd c13 (by decide)
def rFd (f : Nat → Int32) (x : Int32) : Nat → Nat → Int32
  | 0, _ => -1
  | c + 1, j => if f j = x then nI j else rFd f x c (j + 1)
set_option maxHeartbeats 1000000 in
theorem l_find {E : xCl} {ex : Bool} {I : Nat → Nat → Int32} {J : Nat → Nat → Int64} {P : Nat → Nat → Nat} {fr q : Nat} (hq : fr + q ≤ 12) (x : Int32) (d : Nat) : ∀ c j, j + c = q → xR (xEx E ex d) ex none yX11_find cX11_find (some .int) 3 [some (.ref 352), some (.int (nI fr)), some (.int (nI q)), some (.int x), some (.int (nI j))] [] (SH, I, J, P) (xEq (some (.int (rFd (fun k => I 352 (fr + k)) x c j))) (SH, I, J, P)) := by
  intro c
  induction c with
  | zero =>
    intro j hj
    refine r_iload dX11_find_3 rfl ?_
    refine r_iload_n dX11_find_5 rfl ?_
    refine r_ic_ge 28 dX11_find_6 (by decide) (fun c6 => ?_) (fun c6 => ?_)
    · refine r_iconst (v := (-1)) dX11_find_28 (by decide) ?_
      exact r_iret dX11_find_29 rfl rfl rfl rfl
    · exact absurd (nI_le (by omega) (by omega)) c6
  | succ c ih =>
    intro j hj
    refine r_iload dX11_find_3 rfl ?_
    refine r_iload_n dX11_find_5 rfl ?_
    refine r_ic_ge 28 dX11_find_6 (by decide) (fun c6 => ?_) (fun c6 => ?_)
    · exact absurd c6 (nI_ge (by omega) (by omega))
    · refine r_aload_n dX11_find_9 rfl ?_
      refine r_iload_n dX11_find_10 rfl ?_
      refine r_iload dX11_find_11 rfl ?_
      refine r_iadd dX11_find_13 ?_
      refine r_ialv dX11_find_14 sh_352 (by rw [nI_add]; exact vp_in_nI (by omega) (by omega)) (congrArg (I 352) (show (nI fr + nI j).toNatClampNeg = fr + j from by rw [nI_add]; exact nI_clamp (by omega))) ?_
      refine r_iload_n dX11_find_15 rfl ?_
      refine r_ic_ne 22 dX11_find_16 (by decide) (fun c16 => ?_) (fun c16 => ?_)
      · refine r_iinc4 (v := 1) dX11_find_22 (by decide) rfl ?_
        refine r_goto 3 dX11_find_25 (by decide) ?_
        rw [nI_1, rFd, if_neg c16]; exact ih (j + 1) (by omega)
      · refine r_iload dX11_find_19 rfl ?_
        exact r_iret dX11_find_21 rfl rfl (by rw [rFd, if_pos c16]) rfl
set_option maxHeartbeats 1000000 in
theorem k_find {E : xCl} {ex : Bool} {I : Nat → Nat → Int32} {J : Nat → Nat → Int64} {P : Nat → Nat → Nat} {fr q : Nat} (hq : fr + q ≤ 12) (x : Int32) (d : Nat) : xEx E ex (d + 1) yX11_find [.ref 352, .int (nI fr), .int (nI q), .int x] (SH, I, J, P) (some (.int (rFd (fun k => I 352 (fr + k)) x q 0))) (SH, I, J, P) := by
  refine x_enter cqX11_find [some (.ref 352), some (.int (nI fr)), some (.int (nI q)), some (.int x), none] rfl (by simp [lg_sl, Value.category]) ?_
  refine r_iconst (v := 0) dX11_find_0 (by decide) ?_
  refine r_istore4 dX11_find_1 rfl ?_
  exact l_find hq x d q 0 (Nat.zero_add _)
theorem xu_k {α : Type} (f : Nat → Nat → α) (a k : Nat) {k2 : Nat} (v : α) (h : k2 ≠ k) : xu f a k v a k2 = f a k2 := by simp [xu, h]
set_option maxHeartbeats 1000000 in
theorem k_rnamed {E : xCl} {ex : Bool} {I I0 : Nat → Nat → Int32} {J : Nat → Nat → Int64} {P : Nat → Nat → Nat} (hP : Pok P) (hI : xu I 347 2 0 = I0)  {np : Nat} (hnp : np ≤ 6) (h12 : I0 347 12 = nI np) (x : Int32) (d : Nat) : xEx E ex (d + 2) yX11_named [.ref 347, .int x] (SH, I, J, P) (some (.int (rFd (I0 352) x np 0))) (SH, I0, J, P) := by
  refine x_enter cqX11_named [some (.ref 347), some (.int x)] rfl (by simp [lg_sl, Value.category]) ?_
  refine r_aload_n dX11_named_0 rfl ?_
  refine r_iconst (v := 0) dX11_named_1 (by decide) ?_
  refine r_putIv dX11_named_2 flX11_193 ⟨_, _, _, rfl, Or.inl rfl⟩ sh_347 (by decide) rfl rfl rfl hI ?_
  refine r_aload_n dX11_named_5 rfl ?_
  refine r_getR dX11_named_6 flX11_27 sh_347 (by decide) rfl (pf_347_22 hP) ?_
  refine r_iconst (v := 0) dX11_named_9 (by decide) ?_
  refine r_aload_n dX11_named_10 rfl ?_
  refine r_getIv dX11_named_11 flX11_270 sh_347 (by decide) rfl h12 ?_
  refine r_iload_n dX11_named_14 rfl ?_
  refine r_cS4i dX11_named_15 slX11_289 (Nat.le_of_ble_eq_true rfl) (k_find (fr := 0) (q := np) (by omega) x d) ?_
  exact r_iret dX11_named_18 rfl rfl (by rw [show (fun k => I0 352 (0 + k)) = I0 352 from funext (fun k => by rw [Nat.zero_add])]) rfl
set_option maxHeartbeats 1000000 in
theorem k_rfault {E : xCl} {ex : Bool} {I I0 : Nat → Nat → Int32} {J : Nat → Nat → Int64} {P : Nat → Nat → Nat} (hI : xu I 347 2 0 = I0) (w : Int32) (d : Nat) : xEx E ex (d + 1) yX11_fault [.ref 347, .int w] (SH, I, J, P) (some (.int (if w = 0 then I0 347 4 else if w = 1 then I0 347 5 else -1))) (SH, I0, J, P) := by
  refine x_enter cqX11_fault [some (.ref 347), some (.int w)] rfl (by simp [lg_sl, Value.category]) ?_
  refine r_aload_n dX11_fault_0 rfl ?_
  refine r_iconst (v := 0) dX11_fault_1 (by decide) ?_
  refine r_putIv dX11_fault_2 flX11_193 ⟨_, _, _, rfl, Or.inl rfl⟩ sh_347 (by decide) rfl rfl rfl hI ?_
  refine r_iload_n dX11_fault_5 rfl ?_
  refine r_if_ne 16 dX11_fault_6 (by decide) (fun c6 => ?_) (fun c6 => ?_)
  · refine r_iload_n dX11_fault_16 rfl ?_
    refine r_iconst (v := 1) dX11_fault_17 (by decide) ?_
    refine r_ic_ne 28 dX11_fault_18 (by decide) (fun c18 => ?_) (fun c18 => ?_)
    · refine r_iconst (v := (-1)) dX11_fault_28 (by decide) ?_
      exact r_iret dX11_fault_29 rfl rfl (by rw [if_neg c6, if_neg c18]) rfl
    · refine r_aload_n dX11_fault_21 rfl ?_
      refine r_getI dX11_fault_22 flX11_16 sh_347 (by decide) rfl ?_
      refine r_goto 29 dX11_fault_25 (by decide) ?_
      exact r_iret dX11_fault_29 rfl rfl (by rw [if_neg c6, if_pos c18]) rfl
  · refine r_aload_n dX11_fault_9 rfl ?_
    refine r_getI dX11_fault_10 flX11_199 sh_347 (by decide) rfl ?_
    refine r_goto 29 dX11_fault_13 (by decide) ?_
    exact r_iret dX11_fault_29 rfl rfl (by rw [if_pos c6]) rfl
