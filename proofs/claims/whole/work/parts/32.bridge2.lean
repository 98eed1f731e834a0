theorem wB_ac (I : Nat → Nat → Int32) (b : Nat) (V : Nat → Nat → Int32) {f : Nat} (h1 : 0 < f) (h2 : f < 12) {i : Int32} {k : Nat} (hi : i.toNatClampNeg < bl f) (hc : i.toNatClampNeg = k) : wB I b V (b + f) i.toNatClampNeg = V f k := by rw [wB_a I b V h1 h2 hi, hc]
def sCnt (V : Nat → Nat → Int32) (w : Int32) : Nat → Int32
  | 0 => 0
  | j + 1 => if V 9 j = w then sCnt V w j + 1 else sCnt V w j
set_option maxHeartbeats 1000000 in
theorem l_strandsAs {E : xCl} {ex : Bool} {I V : Nat → Nat → Int32} {J : Nat → Nat → Int64} {P : Nat → Nat → Nat} (hP : Pok P) {b : Nat} (hb : b ∈ BR) {n : Nat} (hv : Vok V n) (w : Int32) (d : Nat) : ∀ j, j ≤ n → xR (xEx E ex (d + 0)) ex none yX0_strandsAs cX0_strandsAs (some .int) 4 [some (.ref b), some (.int w), some (.int (sCnt V w j)), some (.int (nI j))] [] (SH, wB I b V, J, P) (xEq (some (.int (sCnt V w n))) (SH, wB I b V, J, P)) := by
  refine r_for (fun j => xR (xEx E ex (d + 0)) ex none yX0_strandsAs cX0_strandsAs (some .int) 4 [some (.ref b), some (.int w), some (.int (sCnt V w j)), some (.int (nI j))] [] (SH, wB I b V, J, P) (xEq (some (.int (sCnt V w n))) (SH, wB I b V, J, P))) _ ?_ ?_
  · intro j hj ih
    refine r_iload_n dX0_strandsAs_4 rfl ?_
    refine r_aload_n dX0_strandsAs_5 rfl ?_
    refine r_getIv dX0_strandsAs_6 flX0_57 (br_s _ hb) (by decide) rfl (wB_i _ _ _ (by decide)) ?_
    refine r_ic_ge 37 dX0_strandsAs_9 (by decide) (fun c9 => ?_) (fun c9 => ?_)
    · exact absurd c9 (hv.g hj)
    · refine r_iload_n dX0_strandsAs_12 rfl ?_
      refine r_bipush (v := 12) dX0_strandsAs_13 (by decide) ?_
      refine r_ic_ge 37 dX0_strandsAs_15 (by decide) (fun c15 => ?_) (fun c15 => ?_)
      · exact absurd c15 (lt12 (by have := hv.1; omega))
      · refine r_aload_n dX0_strandsAs_18 rfl ?_
        refine r_getR dX0_strandsAs_19 flX0_36 (br_s _ hb) (by decide) rfl (br_p9 hP _ hb) ?_
        refine r_iload_n dX0_strandsAs_22 rfl ?_
        refine r_ialv dX0_strandsAs_23 (br_a9 _ hb) (hv.i hj) (wB_ac _ _ _ (by decide) (by decide) (vlt (hv.i hj)) (hv.c hj)) ?_
        refine r_iload_n dX0_strandsAs_24 rfl ?_
        refine r_ic_ne 31 dX0_strandsAs_25 (by decide) (fun c25 => ?_) (fun c25 => ?_)
        · refine r_iinc3 (v := 1) dX0_strandsAs_31 (by decide) rfl ?_
          refine r_goto 4 dX0_strandsAs_34 (by decide) ?_
          rw [nI_1]; rw [sCnt, if_neg c25] at ih; exact ih
        · refine r_iinc2 (v := 1) dX0_strandsAs_28 (by decide) rfl ?_
          refine r_iinc3 (v := 1) dX0_strandsAs_31 (by decide) rfl ?_
          refine r_goto 4 dX0_strandsAs_34 (by decide) ?_
          rw [nI_1]; rw [sCnt, if_pos c25] at ih; exact ih
  · refine r_iload_n dX0_strandsAs_4 rfl ?_
    refine r_aload_n dX0_strandsAs_5 rfl ?_
    refine r_getIv dX0_strandsAs_6 flX0_57 (br_s _ hb) (by decide) rfl (wB_i _ _ _ (by decide)) ?_
    refine r_ic_ge 37 dX0_strandsAs_9 (by decide) (fun c9 => ?_) (fun c9 => ?_)
    · refine r_iload_n dX0_strandsAs_37 rfl ?_
      exact r_iret dX0_strandsAs_38 rfl rfl rfl rfl
    · exact absurd hv.l c9
set_option maxHeartbeats 1000000 in
theorem k_strandsAs {E : xCl} {ex : Bool} {I V : Nat → Nat → Int32} {J : Nat → Nat → Int64} {P : Nat → Nat → Nat} (hP : Pok P) {b : Nat} (hb : b ∈ BR) {n : Nat} (hv : Vok V n) (w : Int32) (d : Nat) : xEx E ex (d + 1) yX0_strandsAs [.ref b, .int w] (SH, wB I b V, J, P) (some (.int (sCnt V w n))) (SH, wB I b V, J, P) := by
  refine x_enter cqX0_strandsAs [some (.ref b), some (.int w), none, none] rfl (by simp [lg_sl, Value.category]) ?_
  refine r_iconst (v := 0) dX0_strandsAs_0 (by decide) ?_
  refine r_istore_n2 dX0_strandsAs_1 rfl ?_
  refine r_iconst (v := 0) dX0_strandsAs_2 (by decide) ?_
  refine r_istore_n3 dX0_strandsAs_3 rfl ?_
  exact l_strandsAs hP hb hv w d 0 (Nat.zero_le n)
def sOut (V : Nat → Nat → Int32) (w : Int32) : Nat → Int32
  | 0 => 0
  | j + 1 => if V 11 j = w then sOut V w j + 1 else sOut V w j
theorem im8 {j m : Nat} (hj : j < m) (hm : m ≤ 8) : vp_in (nI j) 8 := vp_in_nI (by omega) (by omega)
theorem cl8 {j m : Nat} (hj : j < m) (hm : m ≤ 8) : (nI j).toNatClampNeg = j := nI_clamp (by omega)
set_option maxHeartbeats 1000000 in
theorem l_crossingsAs {E : xCl} {ex : Bool} {I V : Nat → Nat → Int32} {J : Nat → Nat → Int64} {P : Nat → Nat → Nat} (hP : Pok P) {b : Nat} (hb : b ∈ BR) {t : Nat} (ht : t ∈ TL) (hbt : P b 0 = t + 1) {m : Nat} (hm : m ≤ 8) (hc : I t 7 = nI m) (w : Int32) (d : Nat) : ∀ j, j ≤ m → xR (xEx E ex (d + 0)) ex none yX0_crossingsAs cX0_crossingsAs (some .int) 4 [some (.ref b), some (.int w), some (.int (sOut V w j)), some (.int (nI j))] [] (SH, wB I b V, J, P) (xEq (some (.int (sOut V w m))) (SH, wB I b V, J, P)) := by
  refine r_for (fun j => xR (xEx E ex (d + 0)) ex none yX0_crossingsAs cX0_crossingsAs (some .int) 4 [some (.ref b), some (.int w), some (.int (sOut V w j)), some (.int (nI j))] [] (SH, wB I b V, J, P) (xEq (some (.int (sOut V w m))) (SH, wB I b V, J, P))) _ ?_ ?_
  · intro j hj ih
    refine r_iload_n dX0_crossingsAs_4 rfl ?_
    refine r_aload_n dX0_crossingsAs_5 rfl ?_
    refine r_getR dX0_crossingsAs_6 flX0_49 (br_s _ hb) (by decide) rfl hbt ?_
    refine r_getIv dX0_crossingsAs_9 flX0_79 (tl_s _ ht) (by decide) rfl ((wB_t0 _ hb _ ht _).trans hc) ?_
    refine r_ic_ge 40 dX0_crossingsAs_12 (by decide) (fun c12 => ?_) (fun c12 => ?_)
    · exact absurd c12 (nI_ge hj (by omega))
    · refine r_iload_n dX0_crossingsAs_15 rfl ?_
      refine r_bipush (v := 8) dX0_crossingsAs_16 (by decide) ?_
      refine r_ic_ge 40 dX0_crossingsAs_18 (by decide) (fun c18 => ?_) (fun c18 => ?_)
      · exact absurd c18 (lt8 (by omega))
      · refine r_aload_n dX0_crossingsAs_21 rfl ?_
        refine r_getR dX0_crossingsAs_22 flX0_42 (br_s _ hb) (by decide) rfl (br_p11 hP _ hb) ?_
        refine r_iload_n dX0_crossingsAs_25 rfl ?_
        refine r_ialv dX0_crossingsAs_26 (br_a11 _ hb) (im8 hj hm) (wB_ac _ _ _ (by decide) (by decide) (vlt (im8 hj hm)) (cl8 hj hm)) ?_
        refine r_iload_n dX0_crossingsAs_27 rfl ?_
        refine r_ic_ne 34 dX0_crossingsAs_28 (by decide) (fun c28 => ?_) (fun c28 => ?_)
        · refine r_iinc3 (v := 1) dX0_crossingsAs_34 (by decide) rfl ?_
          refine r_goto 4 dX0_crossingsAs_37 (by decide) ?_
          rw [nI_1]; rw [sOut, if_neg c28] at ih; exact ih
        · refine r_iinc2 (v := 1) dX0_crossingsAs_31 (by decide) rfl ?_
          refine r_iinc3 (v := 1) dX0_crossingsAs_34 (by decide) rfl ?_
          refine r_goto 4 dX0_crossingsAs_37 (by decide) ?_
          rw [nI_1]; rw [sOut, if_pos c28] at ih; exact ih
  · refine r_iload_n dX0_crossingsAs_4 rfl ?_
    refine r_aload_n dX0_crossingsAs_5 rfl ?_
    refine r_getR dX0_crossingsAs_6 flX0_49 (br_s _ hb) (by decide) rfl hbt ?_
    refine r_getIv dX0_crossingsAs_9 flX0_79 (tl_s _ ht) (by decide) rfl ((wB_t0 _ hb _ ht _).trans hc) ?_
    refine r_ic_ge 40 dX0_crossingsAs_12 (by decide) (fun c12 => ?_) (fun c12 => ?_)
    · refine r_iload_n dX0_crossingsAs_40 rfl ?_
      exact r_iret dX0_crossingsAs_41 rfl rfl rfl rfl
    · exact absurd (nI_le (Nat.le_refl _) (by omega)) c12
set_option maxHeartbeats 1000000 in
theorem k_crossingsAs {E : xCl} {ex : Bool} {I V : Nat → Nat → Int32} {J : Nat → Nat → Int64} {P : Nat → Nat → Nat} (hP : Pok P) {b : Nat} (hb : b ∈ BR) {t : Nat} (ht : t ∈ TL) (hbt : P b 0 = t + 1) {m : Nat} (hm : m ≤ 8) (hc : I t 7 = nI m) (w : Int32) (d : Nat) : xEx E ex (d + 1) yX0_crossingsAs [.ref b, .int w] (SH, wB I b V, J, P) (some (.int (sOut V w m))) (SH, wB I b V, J, P) := by
  refine x_enter cqX0_crossingsAs [some (.ref b), some (.int w), none, none] rfl (by simp [lg_sl, Value.category]) ?_
  refine r_iconst (v := 0) dX0_crossingsAs_0 (by decide) ?_
  refine r_istore_n2 dX0_crossingsAs_1 rfl ?_
  refine r_iconst (v := 0) dX0_crossingsAs_2 (by decide) ?_
  refine r_istore_n3 dX0_crossingsAs_3 rfl ?_
  exact l_crossingsAs hP hb ht hbt hm hc w d 0 (Nat.zero_le m)
def sOw (V : Nat → Nat → Int32) (p q : Int32) : Nat → Int32
  | 0 => 0
  | j + 1 => if V 9 j = 0 ∧ (p = -1 ∨ V 3 j = p) ∧ (q = -1 ∨ V 4 j = q) then sOw V p q j + V 5 j else sOw V p q j
set_option maxHeartbeats 1000000 in
theorem l_owedBetween {E : xCl} {ex : Bool} {I V : Nat → Nat → Int32} {J : Nat → Nat → Int64} {P : Nat → Nat → Nat} (hP : Pok P) {b : Nat} (hb : b ∈ BR) {n : Nat} (hv : Vok V n) (p q : Int32) (d : Nat) : ∀ j, j ≤ n → ∀ (x : Option Value), xR (xEx E ex (d + 2)) ex none yX0_owedBetween cX0_owedBetween (some .int) 5 [some (.ref b), some (.int p), some (.int q), some (.int (sOw V p q j)), some (.int (nI j)), x] [] (SH, wB I b V, J, P) (xEq (some (.int (sOw V p q n))) (SH, wB I b V, J, P)) := by
  refine r_for (fun j => ∀ (x : Option Value), xR (xEx E ex (d + 2)) ex none yX0_owedBetween cX0_owedBetween (some .int) 5 [some (.ref b), some (.int p), some (.int q), some (.int (sOw V p q j)), some (.int (nI j)), x] [] (SH, wB I b V, J, P) (xEq (some (.int (sOw V p q n))) (SH, wB I b V, J, P))) _ ?_ ?_
  · intro j hj ih x
    refine r_iload dX0_owedBetween_5 rfl ?_
    refine r_aload_n dX0_owedBetween_7 rfl ?_
    refine r_getIv dX0_owedBetween_8 flX0_57 (br_s _ hb) (by decide) rfl (wB_i _ _ _ (by decide)) ?_
    refine r_ic_ge 83 dX0_owedBetween_11 (by decide) (fun c11 => ?_) (fun c11 => ?_)
    · exact absurd c11 (hv.g hj)
    · refine r_aload_n dX0_owedBetween_14 rfl ?_
      refine r_iload dX0_owedBetween_15 rfl ?_
      by_cases h17 : sTh V (nI j)
      · refine r_cV1i dX0_owedBetween_17 vlX0_76 (br_s _ hb) (Nat.le_of_ble_eq_true rfl) (k_isThere_t hP hb h17 d) ?_
        have q17 := (hv.t hj).mp h17
        refine r_if_eq 59 dX0_owedBetween_20 (by decide) (fun c20 => ?_) (fun c20 => ?_)
        · exact absurd c20 (by decide)
        · refine r_iload_n dX0_owedBetween_23 rfl ?_
          refine r_iconst (v := (-1)) dX0_owedBetween_24 (by decide) ?_
          refine r_ic_eq 39 dX0_owedBetween_25 (by decide) (fun c25 => ?_) (fun c25 => ?_)
          · refine r_iload_n dX0_owedBetween_39 rfl ?_
            refine r_iconst (v := (-1)) dX0_owedBetween_40 (by decide) ?_
            refine r_ic_eq 55 dX0_owedBetween_41 (by decide) (fun c41 => ?_) (fun c41 => ?_)
            · refine r_iconst (v := 1) dX0_owedBetween_55 (by decide) ?_
              refine r_goto 60 dX0_owedBetween_56 (by decide) ?_
              refine r_istore5 dX0_owedBetween_60 rfl ?_
              refine r_iload dX0_owedBetween_62 rfl ?_
              refine r_if_eq 77 dX0_owedBetween_64 (by decide) (fun c64 => ?_) (fun c64 => ?_)
              · exact absurd c64 (by decide)
              · refine r_iload_n dX0_owedBetween_67 rfl ?_
                refine r_aload_n dX0_owedBetween_68 rfl ?_
                refine r_getR dX0_owedBetween_69 flX0_24 (br_s _ hb) (by decide) rfl (br_p5 hP _ hb) ?_
                refine r_iload dX0_owedBetween_72 rfl ?_
                refine r_ialv dX0_owedBetween_74 (br_a5 _ hb) (hv.i hj) (wB_ac _ _ _ (by decide) (by decide) (vlt (hv.i hj)) (hv.c hj)) ?_
                refine r_iadd dX0_owedBetween_75 ?_
                refine r_istore_n3 dX0_owedBetween_76 rfl ?_
                refine r_iinc4 (v := 1) dX0_owedBetween_77 (by decide) rfl ?_
                refine r_goto 5 dX0_owedBetween_80 (by decide) ?_
                rw [nI_1]; have ih := ih (some (.int 1)); rw [sOw, if_pos (by simp_all)] at ih; exact ih
            · refine r_aload_n dX0_owedBetween_44 rfl ?_
              refine r_getR dX0_owedBetween_45 flX0_21 (br_s _ hb) (by decide) rfl (br_p4 hP _ hb) ?_
              refine r_iload dX0_owedBetween_48 rfl ?_
              refine r_ialv dX0_owedBetween_50 (br_a4 _ hb) (hv.i hj) (wB_ac _ _ _ (by decide) (by decide) (vlt (hv.i hj)) (hv.c hj)) ?_
              refine r_iload_n dX0_owedBetween_51 rfl ?_
              refine r_ic_ne 59 dX0_owedBetween_52 (by decide) (fun c52 => ?_) (fun c52 => ?_)
              · refine r_iconst (v := 0) dX0_owedBetween_59 (by decide) ?_
                refine r_istore5 dX0_owedBetween_60 rfl ?_
                refine r_iload dX0_owedBetween_62 rfl ?_
                refine r_if_eq 77 dX0_owedBetween_64 (by decide) (fun c64 => ?_) (fun c64 => ?_)
                · refine r_iinc4 (v := 1) dX0_owedBetween_77 (by decide) rfl ?_
                  refine r_goto 5 dX0_owedBetween_80 (by decide) ?_
                  rw [nI_1]; have ih := ih (some (.int 0)); rw [sOw, if_neg (by simp_all)] at ih; exact ih
                · exact absurd c64 (by decide)
              · refine r_iconst (v := 1) dX0_owedBetween_55 (by decide) ?_
                refine r_goto 60 dX0_owedBetween_56 (by decide) ?_
                refine r_istore5 dX0_owedBetween_60 rfl ?_
                refine r_iload dX0_owedBetween_62 rfl ?_
                refine r_if_eq 77 dX0_owedBetween_64 (by decide) (fun c64 => ?_) (fun c64 => ?_)
                · exact absurd c64 (by decide)
                · refine r_iload_n dX0_owedBetween_67 rfl ?_
                  refine r_aload_n dX0_owedBetween_68 rfl ?_
                  refine r_getR dX0_owedBetween_69 flX0_24 (br_s _ hb) (by decide) rfl (br_p5 hP _ hb) ?_
                  refine r_iload dX0_owedBetween_72 rfl ?_
                  refine r_ialv dX0_owedBetween_74 (br_a5 _ hb) (hv.i hj) (wB_ac _ _ _ (by decide) (by decide) (vlt (hv.i hj)) (hv.c hj)) ?_
                  refine r_iadd dX0_owedBetween_75 ?_
                  refine r_istore_n3 dX0_owedBetween_76 rfl ?_
                  refine r_iinc4 (v := 1) dX0_owedBetween_77 (by decide) rfl ?_
                  refine r_goto 5 dX0_owedBetween_80 (by decide) ?_
                  rw [nI_1]; have ih := ih (some (.int 1)); rw [sOw, if_pos (by simp_all)] at ih; exact ih
          · refine r_aload_n dX0_owedBetween_28 rfl ?_
            refine r_getR dX0_owedBetween_29 flX0_18 (br_s _ hb) (by decide) rfl (br_p3 hP _ hb) ?_
            refine r_iload dX0_owedBetween_32 rfl ?_
            refine r_ialv dX0_owedBetween_34 (br_a3 _ hb) (hv.i hj) (wB_ac _ _ _ (by decide) (by decide) (vlt (hv.i hj)) (hv.c hj)) ?_
            refine r_iload_n dX0_owedBetween_35 rfl ?_
            refine r_ic_ne 59 dX0_owedBetween_36 (by decide) (fun c36 => ?_) (fun c36 => ?_)
            · refine r_iconst (v := 0) dX0_owedBetween_59 (by decide) ?_
              refine r_istore5 dX0_owedBetween_60 rfl ?_
              refine r_iload dX0_owedBetween_62 rfl ?_
              refine r_if_eq 77 dX0_owedBetween_64 (by decide) (fun c64 => ?_) (fun c64 => ?_)
              · refine r_iinc4 (v := 1) dX0_owedBetween_77 (by decide) rfl ?_
                refine r_goto 5 dX0_owedBetween_80 (by decide) ?_
                rw [nI_1]; have ih := ih (some (.int 0)); rw [sOw, if_neg (by simp_all)] at ih; exact ih
              · exact absurd c64 (by decide)
            · refine r_iload_n dX0_owedBetween_39 rfl ?_
              refine r_iconst (v := (-1)) dX0_owedBetween_40 (by decide) ?_
              refine r_ic_eq 55 dX0_owedBetween_41 (by decide) (fun c41 => ?_) (fun c41 => ?_)
              · refine r_iconst (v := 1) dX0_owedBetween_55 (by decide) ?_
                refine r_goto 60 dX0_owedBetween_56 (by decide) ?_
                refine r_istore5 dX0_owedBetween_60 rfl ?_
                refine r_iload dX0_owedBetween_62 rfl ?_
                refine r_if_eq 77 dX0_owedBetween_64 (by decide) (fun c64 => ?_) (fun c64 => ?_)
                · exact absurd c64 (by decide)
                · refine r_iload_n dX0_owedBetween_67 rfl ?_
                  refine r_aload_n dX0_owedBetween_68 rfl ?_
                  refine r_getR dX0_owedBetween_69 flX0_24 (br_s _ hb) (by decide) rfl (br_p5 hP _ hb) ?_
                  refine r_iload dX0_owedBetween_72 rfl ?_
                  refine r_ialv dX0_owedBetween_74 (br_a5 _ hb) (hv.i hj) (wB_ac _ _ _ (by decide) (by decide) (vlt (hv.i hj)) (hv.c hj)) ?_
                  refine r_iadd dX0_owedBetween_75 ?_
                  refine r_istore_n3 dX0_owedBetween_76 rfl ?_
                  refine r_iinc4 (v := 1) dX0_owedBetween_77 (by decide) rfl ?_
                  refine r_goto 5 dX0_owedBetween_80 (by decide) ?_
                  rw [nI_1]; have ih := ih (some (.int 1)); rw [sOw, if_pos (by simp_all)] at ih; exact ih
              · refine r_aload_n dX0_owedBetween_44 rfl ?_
                refine r_getR dX0_owedBetween_45 flX0_21 (br_s _ hb) (by decide) rfl (br_p4 hP _ hb) ?_
                refine r_iload dX0_owedBetween_48 rfl ?_
                refine r_ialv dX0_owedBetween_50 (br_a4 _ hb) (hv.i hj) (wB_ac _ _ _ (by decide) (by decide) (vlt (hv.i hj)) (hv.c hj)) ?_
                refine r_iload_n dX0_owedBetween_51 rfl ?_
                refine r_ic_ne 59 dX0_owedBetween_52 (by decide) (fun c52 => ?_) (fun c52 => ?_)
                · refine r_iconst (v := 0) dX0_owedBetween_59 (by decide) ?_
                  refine r_istore5 dX0_owedBetween_60 rfl ?_
                  refine r_iload dX0_owedBetween_62 rfl ?_
                  refine r_if_eq 77 dX0_owedBetween_64 (by decide) (fun c64 => ?_) (fun c64 => ?_)
                  · refine r_iinc4 (v := 1) dX0_owedBetween_77 (by decide) rfl ?_
                    refine r_goto 5 dX0_owedBetween_80 (by decide) ?_
                    rw [nI_1]; have ih := ih (some (.int 0)); rw [sOw, if_neg (by simp_all)] at ih; exact ih
                  · exact absurd c64 (by decide)
                · refine r_iconst (v := 1) dX0_owedBetween_55 (by decide) ?_
                  refine r_goto 60 dX0_owedBetween_56 (by decide) ?_
                  refine r_istore5 dX0_owedBetween_60 rfl ?_
                  refine r_iload dX0_owedBetween_62 rfl ?_
                  refine r_if_eq 77 dX0_owedBetween_64 (by decide) (fun c64 => ?_) (fun c64 => ?_)
                  · exact absurd c64 (by decide)
                  · refine r_iload_n dX0_owedBetween_67 rfl ?_
                    refine r_aload_n dX0_owedBetween_68 rfl ?_
                    refine r_getR dX0_owedBetween_69 flX0_24 (br_s _ hb) (by decide) rfl (br_p5 hP _ hb) ?_
                    refine r_iload dX0_owedBetween_72 rfl ?_
                    refine r_ialv dX0_owedBetween_74 (br_a5 _ hb) (hv.i hj) (wB_ac _ _ _ (by decide) (by decide) (vlt (hv.i hj)) (hv.c hj)) ?_
                    refine r_iadd dX0_owedBetween_75 ?_
                    refine r_istore_n3 dX0_owedBetween_76 rfl ?_
                    refine r_iinc4 (v := 1) dX0_owedBetween_77 (by decide) rfl ?_
                    refine r_goto 5 dX0_owedBetween_80 (by decide) ?_
                    rw [nI_1]; have ih := ih (some (.int 1)); rw [sOw, if_pos (by simp_all)] at ih; exact ih
      · refine r_cV1i dX0_owedBetween_17 vlX0_76 (br_s _ hb) (Nat.le_of_ble_eq_true rfl) (k_isThere_f hP hb h17 d) ?_
        have q17 := fun q => h17 ((hv.t hj).mpr q)
        refine r_if_eq 59 dX0_owedBetween_20 (by decide) (fun c20 => ?_) (fun c20 => ?_)
        · refine r_iconst (v := 0) dX0_owedBetween_59 (by decide) ?_
          refine r_istore5 dX0_owedBetween_60 rfl ?_
          refine r_iload dX0_owedBetween_62 rfl ?_
          refine r_if_eq 77 dX0_owedBetween_64 (by decide) (fun c64 => ?_) (fun c64 => ?_)
          · refine r_iinc4 (v := 1) dX0_owedBetween_77 (by decide) rfl ?_
            refine r_goto 5 dX0_owedBetween_80 (by decide) ?_
            rw [nI_1]; have ih := ih (some (.int 0)); rw [sOw, if_neg (by simp_all)] at ih; exact ih
          · exact absurd c64 (by decide)
        · exact absurd c20 (by decide)
  · intro x
    refine r_iload dX0_owedBetween_5 rfl ?_
    refine r_aload_n dX0_owedBetween_7 rfl ?_
    refine r_getIv dX0_owedBetween_8 flX0_57 (br_s _ hb) (by decide) rfl (wB_i _ _ _ (by decide)) ?_
    refine r_ic_ge 83 dX0_owedBetween_11 (by decide) (fun c11 => ?_) (fun c11 => ?_)
    · refine r_iload_n dX0_owedBetween_83 rfl ?_
      exact r_iret dX0_owedBetween_84 rfl rfl rfl rfl
    · exact absurd hv.l c11
set_option maxHeartbeats 1000000 in
theorem k_owedBetween {E : xCl} {ex : Bool} {I V : Nat → Nat → Int32} {J : Nat → Nat → Int64} {P : Nat → Nat → Nat} (hP : Pok P) {b : Nat} (hb : b ∈ BR) {n : Nat} (hv : Vok V n) (p q : Int32) (d : Nat) : xEx E ex (d + 3) yX0_owedBetween [.ref b, .int p, .int q] (SH, wB I b V, J, P) (some (.int (sOw V p q n))) (SH, wB I b V, J, P) := by
  refine x_enter cqX0_owedBetween [some (.ref b), some (.int p), some (.int q), none, none, none] rfl (by simp [lg_sl, Value.category]) ?_
  refine r_iconst (v := 0) dX0_owedBetween_0 (by decide) ?_
  refine r_istore_n3 dX0_owedBetween_1 rfl ?_
  refine r_iconst (v := 0) dX0_owedBetween_2 (by decide) ?_
  refine r_istore4 dX0_owedBetween_3 rfl ?_
  exact l_owedBetween hP hb hv p q d 0 (Nat.zero_le n) none
def sOn (V : Nat → Nat → Int32) (w : Int32) : Nat → Int32
  | 0 => 0
  | j + 1 => if (w >>> (nI j &&& 31)) &&& 1 = 1 then sOn V w j + V 5 j else sOn V w j
set_option maxHeartbeats 1000000 in
theorem l_owedOn {E : xCl} {ex : Bool} {I V : Nat → Nat → Int32} {J : Nat → Nat → Int64} {P : Nat → Nat → Nat} (hP : Pok P) {b : Nat} (hb : b ∈ BR) {n : Nat} (hv : Vok V n) (w : Int32) (d : Nat) : ∀ j, j ≤ n → xR (xEx E ex (d + 0)) ex none yX0_owedOn cX0_owedOn (some .int) 4 [some (.ref b), some (.int w), some (.int (sOn V w j)), some (.int (nI j))] [] (SH, wB I b V, J, P) (xEq (some (.int (sOn V w n))) (SH, wB I b V, J, P)) := by
  refine r_for (fun j => xR (xEx E ex (d + 0)) ex none yX0_owedOn cX0_owedOn (some .int) 4 [some (.ref b), some (.int w), some (.int (sOn V w j)), some (.int (nI j))] [] (SH, wB I b V, J, P) (xEq (some (.int (sOn V w n))) (SH, wB I b V, J, P))) _ ?_ ?_
  · intro j hj ih
    refine r_iload_n dX0_owedOn_4 rfl ?_
    refine r_aload_n dX0_owedOn_5 rfl ?_
    refine r_getIv dX0_owedOn_6 flX0_57 (br_s _ hb) (by decide) rfl (wB_i _ _ _ (by decide)) ?_
    refine r_ic_ge 42 dX0_owedOn_9 (by decide) (fun c9 => ?_) (fun c9 => ?_)
    · exact absurd c9 (hv.g hj)
    · refine r_iload_n dX0_owedOn_12 rfl ?_
      refine r_bipush (v := 12) dX0_owedOn_13 (by decide) ?_
      refine r_ic_ge 42 dX0_owedOn_15 (by decide) (fun c15 => ?_) (fun c15 => ?_)
      · exact absurd c15 (lt12 (by have := hv.1; omega))
      · refine r_iload_n dX0_owedOn_18 rfl ?_
        refine r_iload_n dX0_owedOn_19 rfl ?_
        refine r_ishr dX0_owedOn_20 ?_
        refine r_iconst (v := 1) dX0_owedOn_21 (by decide) ?_
        refine r_iand dX0_owedOn_22 ?_
        refine r_iconst (v := 1) dX0_owedOn_23 (by decide) ?_
        refine r_ic_ne 36 dX0_owedOn_24 (by decide) (fun c24 => ?_) (fun c24 => ?_)
        · refine r_iinc3 (v := 1) dX0_owedOn_36 (by decide) rfl ?_
          refine r_goto 4 dX0_owedOn_39 (by decide) ?_
          rw [nI_1]; rw [sOn, if_neg c24] at ih; exact ih
        · refine r_iload_n dX0_owedOn_27 rfl ?_
          refine r_aload_n dX0_owedOn_28 rfl ?_
          refine r_getR dX0_owedOn_29 flX0_24 (br_s _ hb) (by decide) rfl (br_p5 hP _ hb) ?_
          refine r_iload_n dX0_owedOn_32 rfl ?_
          refine r_ialv dX0_owedOn_33 (br_a5 _ hb) (hv.i hj) (wB_ac _ _ _ (by decide) (by decide) (vlt (hv.i hj)) (hv.c hj)) ?_
          refine r_iadd dX0_owedOn_34 ?_
          refine r_istore_n2 dX0_owedOn_35 rfl ?_
          refine r_iinc3 (v := 1) dX0_owedOn_36 (by decide) rfl ?_
          refine r_goto 4 dX0_owedOn_39 (by decide) ?_
          rw [nI_1]; rw [sOn, if_pos c24] at ih; exact ih
  · refine r_iload_n dX0_owedOn_4 rfl ?_
    refine r_aload_n dX0_owedOn_5 rfl ?_
    refine r_getIv dX0_owedOn_6 flX0_57 (br_s _ hb) (by decide) rfl (wB_i _ _ _ (by decide)) ?_
    refine r_ic_ge 42 dX0_owedOn_9 (by decide) (fun c9 => ?_) (fun c9 => ?_)
    · refine r_iload_n dX0_owedOn_42 rfl ?_
      exact r_iret dX0_owedOn_43 rfl rfl rfl rfl
    · exact absurd hv.l c9
set_option maxHeartbeats 1000000 in
theorem k_owedOn {E : xCl} {ex : Bool} {I V : Nat → Nat → Int32} {J : Nat → Nat → Int64} {P : Nat → Nat → Nat} (hP : Pok P) {b : Nat} (hb : b ∈ BR) {n : Nat} (hv : Vok V n) (w : Int32) (d : Nat) : xEx E ex (d + 1) yX0_owedOn [.ref b, .int w] (SH, wB I b V, J, P) (some (.int (sOn V w n))) (SH, wB I b V, J, P) := by
  refine x_enter cqX0_owedOn [some (.ref b), some (.int w), none, none] rfl (by simp [lg_sl, Value.category]) ?_
  refine r_iconst (v := 0) dX0_owedOn_0 (by decide) ?_
  refine r_istore_n2 dX0_owedOn_1 rfl ?_
  refine r_iconst (v := 0) dX0_owedOn_2 (by decide) ?_
  refine r_istore_n3 dX0_owedOn_3 rfl ?_
  exact l_owedOn hP hb hv w d 0 (Nat.zero_le n)
def sSide (V : Nat → Nat → Int32) (sd : Nat → Int32) (w : Int32) : Nat → Int32
  | 0 => 0
  | j + 1 => if V 9 j = 0 ∧ sd (V 3 j).toNatClampNeg = w then sSide V sd w j ||| (1 <<< (nI j &&& 31)) else sSide V sd w j
set_option maxHeartbeats 1000000 in
theorem l_strandsOfSide {E : xCl} {ex : Bool} {I V : Nat → Nat → Int32} {J : Nat → Nat → Int64} {P : Nat → Nat → Nat} (hP : Pok P) {b : Nat} (hb : b ∈ BR) {t : Nat} (ht : t ∈ TL) (hbt : P b 0 = t + 1) {n : Nat} (hv : Vok V n) (w : Int32) (d : Nat) : ∀ j, j ≤ n → xR (xEx E ex (d + 2)) ex none yX0_strandsOfSide cX0_strandsOfSide (some .int) 4 [some (.ref b), some (.int w), some (.int (sSide V (I (t + 2)) w j)), some (.int (nI j))] [] (SH, wB I b V, J, P) (xEq (some (.int (sSide V (I (t + 2)) w n))) (SH, wB I b V, J, P)) := by
  refine r_for (fun j => xR (xEx E ex (d + 2)) ex none yX0_strandsOfSide cX0_strandsOfSide (some .int) 4 [some (.ref b), some (.int w), some (.int (sSide V (I (t + 2)) w j)), some (.int (nI j))] [] (SH, wB I b V, J, P) (xEq (some (.int (sSide V (I (t + 2)) w n))) (SH, wB I b V, J, P))) _ ?_ ?_
  · intro j hj ih
    refine r_iload_n dX0_strandsOfSide_4 rfl ?_
    refine r_aload_n dX0_strandsOfSide_5 rfl ?_
    refine r_getIv dX0_strandsOfSide_6 flX0_57 (br_s _ hb) (by decide) rfl (wB_i _ _ _ (by decide)) ?_
    refine r_ic_ge 50 dX0_strandsOfSide_9 (by decide) (fun c9 => ?_) (fun c9 => ?_)
    · exact absurd c9 (hv.g hj)
    · refine r_aload_n dX0_strandsOfSide_12 rfl ?_
      refine r_iload_n dX0_strandsOfSide_13 rfl ?_
      by_cases h14 : sTh V (nI j)
      · refine r_cV1i dX0_strandsOfSide_14 vlX0_76 (br_s _ hb) (Nat.le_of_ble_eq_true rfl) (k_isThere_t hP hb h14 d) ?_
        have q14 := (hv.t hj).mp h14
        refine r_if_eq 44 dX0_strandsOfSide_17 (by decide) (fun c17 => ?_) (fun c17 => ?_)
        · exact absurd c17 (by decide)
        · refine r_aload_n dX0_strandsOfSide_20 rfl ?_
          refine r_getR dX0_strandsOfSide_21 flX0_49 (br_s _ hb) (by decide) rfl hbt ?_
          refine r_getR dX0_strandsOfSide_24 flX0_84 (tl_s _ ht) (by decide) rfl (tl_p1 hP _ ht) ?_
          refine r_aload_n dX0_strandsOfSide_27 rfl ?_
          refine r_getR dX0_strandsOfSide_28 flX0_18 (br_s _ hb) (by decide) rfl (br_p3 hP _ hb) ?_
          refine r_iload_n dX0_strandsOfSide_31 rfl ?_
          refine r_ialv dX0_strandsOfSide_32 (br_a3 _ hb) (hv.i hj) (wB_ac _ _ _ (by decide) (by decide) (vlt (hv.i hj)) (hv.c hj)) ?_
          refine r_ialv dX0_strandsOfSide_33 (tl_a1 _ ht) (hv.2.2.1 _) (wB_t _ hb _ ht (by decide) _) ?_
          refine r_iload_n dX0_strandsOfSide_34 rfl ?_
          refine r_ic_ne 44 dX0_strandsOfSide_35 (by decide) (fun c35 => ?_) (fun c35 => ?_)
          · refine r_iinc3 (v := 1) dX0_strandsOfSide_44 (by decide) rfl ?_
            refine r_goto 4 dX0_strandsOfSide_47 (by decide) ?_
            rw [nI_1]; rw [sSide, if_neg (fun z => c35 z.2)] at ih; exact ih
          · refine r_iload_n dX0_strandsOfSide_38 rfl ?_
            refine r_iconst (v := 1) dX0_strandsOfSide_39 (by decide) ?_
            refine r_iload_n dX0_strandsOfSide_40 rfl ?_
            refine r_ishl dX0_strandsOfSide_41 ?_
            refine r_ior dX0_strandsOfSide_42 ?_
            refine r_istore_n2 dX0_strandsOfSide_43 rfl ?_
            refine r_iinc3 (v := 1) dX0_strandsOfSide_44 (by decide) rfl ?_
            refine r_goto 4 dX0_strandsOfSide_47 (by decide) ?_
            rw [nI_1]; rw [sSide, if_pos ⟨q14, c35⟩] at ih; exact ih
      · refine r_cV1i dX0_strandsOfSide_14 vlX0_76 (br_s _ hb) (Nat.le_of_ble_eq_true rfl) (k_isThere_f hP hb h14 d) ?_
        have q14 := fun q => h14 ((hv.t hj).mpr q)
        refine r_if_eq 44 dX0_strandsOfSide_17 (by decide) (fun c17 => ?_) (fun c17 => ?_)
        · refine r_iinc3 (v := 1) dX0_strandsOfSide_44 (by decide) rfl ?_
          refine r_goto 4 dX0_strandsOfSide_47 (by decide) ?_
          rw [nI_1]; rw [sSide, if_neg (fun z => q14 z.1)] at ih; exact ih
        · exact absurd c17 (by decide)
  · refine r_iload_n dX0_strandsOfSide_4 rfl ?_
    refine r_aload_n dX0_strandsOfSide_5 rfl ?_
    refine r_getIv dX0_strandsOfSide_6 flX0_57 (br_s _ hb) (by decide) rfl (wB_i _ _ _ (by decide)) ?_
    refine r_ic_ge 50 dX0_strandsOfSide_9 (by decide) (fun c9 => ?_) (fun c9 => ?_)
    · refine r_iload_n dX0_strandsOfSide_50 rfl ?_
      exact r_iret dX0_strandsOfSide_51 rfl rfl rfl rfl
    · exact absurd hv.l c9
set_option maxHeartbeats 1000000 in
theorem k_strandsOfSide {E : xCl} {ex : Bool} {I V : Nat → Nat → Int32} {J : Nat → Nat → Int64} {P : Nat → Nat → Nat} (hP : Pok P) {b : Nat} (hb : b ∈ BR) {t : Nat} (ht : t ∈ TL) (hbt : P b 0 = t + 1) {n : Nat} (hv : Vok V n) (w : Int32) (d : Nat) : xEx E ex (d + 3) yX0_strandsOfSide [.ref b, .int w] (SH, wB I b V, J, P) (some (.int (sSide V (I (t + 2)) w n))) (SH, wB I b V, J, P) := by
  refine x_enter cqX0_strandsOfSide [some (.ref b), some (.int w), none, none] rfl (by simp [lg_sl, Value.category]) ?_
  refine r_iconst (v := 0) dX0_strandsOfSide_0 (by decide) ?_
  refine r_istore_n2 dX0_strandsOfSide_1 rfl ?_
  refine r_iconst (v := 0) dX0_strandsOfSide_2 (by decide) ?_
  refine r_istore_n3 dX0_strandsOfSide_3 rfl ?_
  exact l_strandsOfSide hP hb ht hbt hv w d 0 (Nat.zero_le n)
