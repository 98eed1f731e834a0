/-! a bridge by its view: V f k is what stands at place k of its field f (1 purse .. 11 outcome; 12 paintedBits, 13 strands, 14 plank, 15 year at any place) -/
def vB (I : Nat → Nat → Int32) (b : Nat) : Nat → Nat → Int32 := fun f k => if f < 12 then I (b + f) k else I b f
abbrev sSt (V : Nat → Nat → Int32) (i : Int32) : Prop := ¬ i < 0 ∧ ¬ V 13 0 ≤ i ∧ ¬ 12 ≤ i
abbrev sTh (V : Nat → Nat → Int32) (i : Int32) : Prop := sSt V i ∧ V 9 i.toNatClampNeg = 0
def sTwo (V : Nat → Nat → Int32) (i : Int32) : Int32 := if sTh V (V 10 i.toNatClampNeg) then 1 else 0
/-- the seven names of the laws for a strand -/
def sN7 (x0 x1 x2 x3 x4 x5 x6 : Int32) : Nat → Int64 := fun k => match k with
  | 0 => x0.toInt64
  | 1 => x1.toInt64
  | 2 => x2.toInt64
  | 3 => x3.toInt64
  | 4 => x4.toInt64
  | 5 => x5.toInt64
  | _ => x6.toInt64
def sNm (V : Nat → Nat → Int32) (i two : Int32) : Nat → Int64 := sN7 (V 5 i.toNatClampNeg) (V 6 i.toNatClampNeg) (V 15 0 - V 8 i.toNatClampNeg) (V 7 i.toNatClampNeg) (V 15 0) (V 1 (V 3 i.toNatClampNeg).toNatClampNeg) two
def sWi (v : Option Int64) (most wo : Int32) : Int32 := match v with
  | none => wo
  | some x => if x < 0 then 0 else if most.toInt64 < x then most else x.toInt32
theorem vin12 {i : Int32} (h0 : ¬ i < 0) (h1 : ¬ 12 ≤ i) : vp_in i 12 := vin h0 h1 rfl
/-- what holds of a bridge's rows at every time -/
def Bok (I : Nat → Nat → Int32) (b : Nat) : Prop := (∃ n : Nat, n ≤ 12 ∧ I b 13 = nI n) ∧ (∀ k, vp_in (I (b + 3) k) 6) ∧ ∀ k, vp_in (I (b + 4) k) 6
theorem nI_in12 {j n : Nat} (h : j < n) (hn : n ≤ 12) : vp_in (nI j) 12 := vp_in_nI (by omega) (by omega)
theorem nI_cl {j n : Nat} (h : j < n) (hn : n ≤ 12) : (nI j).toNatClampNeg = j := nI_clamp (by omega)

set_option maxHeartbeats 1000000 in
theorem k_isStrand_t {E : xCl} {ex : Bool} {I : Nat → Nat → Int32} {J : Nat → Nat → Int64} {P : Nat → Nat → Nat} {b : Nat} (hb : b ∈ BR) {i : Int32} (h : sSt (vB I b) i) (d : Nat) : xEx E ex (d + 1) yX0_isStrand [.ref b, .int i] (SH, I, J, P) (some (.int 1)) (SH, I, J, P) := by
  refine x_enter cqX0_isStrand [some (.ref b), some (.int i)] rfl (by simp [lg_sl, Value.category]) ?_
  refine r_iload_n dX0_isStrand_0 rfl ?_
  refine r_if_lt 22 dX0_isStrand_1 (by decide) (fun c1 => ?_) (fun c1 => ?_)
  · refine r_iconst (v := 0) dX0_isStrand_22 (by decide) ?_
    exact r_iret dX0_isStrand_23 rfl rfl (by simp_all [vB, sSt, sTh]) rfl
  · refine r_iload_n dX0_isStrand_4 rfl ?_
    refine r_aload_n dX0_isStrand_5 rfl ?_
    refine r_getI dX0_isStrand_6 flX0_53 (br_s _ hb) (by decide) rfl ?_
    refine r_ic_ge 22 dX0_isStrand_9 (by decide) (fun c9 => ?_) (fun c9 => ?_)
    · refine r_iconst (v := 0) dX0_isStrand_22 (by decide) ?_
      exact r_iret dX0_isStrand_23 rfl rfl (by simp_all [vB, sSt, sTh]) rfl
    · refine r_iload_n dX0_isStrand_12 rfl ?_
      refine r_bipush (v := 12) dX0_isStrand_13 (by decide) ?_
      refine r_ic_ge 22 dX0_isStrand_15 (by decide) (fun c15 => ?_) (fun c15 => ?_)
      · refine r_iconst (v := 0) dX0_isStrand_22 (by decide) ?_
        exact r_iret dX0_isStrand_23 rfl rfl (by simp_all [vB, sSt, sTh]) rfl
      · refine r_iconst (v := 1) dX0_isStrand_18 (by decide) ?_
        refine r_goto 23 dX0_isStrand_19 (by decide) ?_
        exact r_iret dX0_isStrand_23 rfl rfl (by simp_all [vB, sSt, sTh]) rfl
set_option maxHeartbeats 1000000 in
theorem k_isStrand_f {E : xCl} {ex : Bool} {I : Nat → Nat → Int32} {J : Nat → Nat → Int64} {P : Nat → Nat → Nat} {b : Nat} (hb : b ∈ BR) {i : Int32} (h : ¬ sSt (vB I b) i) (d : Nat) : xEx E ex (d + 1) yX0_isStrand [.ref b, .int i] (SH, I, J, P) (some (.int 0)) (SH, I, J, P) := by
  refine x_enter cqX0_isStrand [some (.ref b), some (.int i)] rfl (by simp [lg_sl, Value.category]) ?_
  refine r_iload_n dX0_isStrand_0 rfl ?_
  refine r_if_lt 22 dX0_isStrand_1 (by decide) (fun c1 => ?_) (fun c1 => ?_)
  · refine r_iconst (v := 0) dX0_isStrand_22 (by decide) ?_
    exact r_iret dX0_isStrand_23 rfl rfl (by simp_all [vB, sSt, sTh]) rfl
  · refine r_iload_n dX0_isStrand_4 rfl ?_
    refine r_aload_n dX0_isStrand_5 rfl ?_
    refine r_getI dX0_isStrand_6 flX0_53 (br_s _ hb) (by decide) rfl ?_
    refine r_ic_ge 22 dX0_isStrand_9 (by decide) (fun c9 => ?_) (fun c9 => ?_)
    · refine r_iconst (v := 0) dX0_isStrand_22 (by decide) ?_
      exact r_iret dX0_isStrand_23 rfl rfl (by simp_all [vB, sSt, sTh]) rfl
    · refine r_iload_n dX0_isStrand_12 rfl ?_
      refine r_bipush (v := 12) dX0_isStrand_13 (by decide) ?_
      refine r_ic_ge 22 dX0_isStrand_15 (by decide) (fun c15 => ?_) (fun c15 => ?_)
      · refine r_iconst (v := 0) dX0_isStrand_22 (by decide) ?_
        exact r_iret dX0_isStrand_23 rfl rfl (by simp_all [vB, sSt, sTh]) rfl
      · refine r_iconst (v := 1) dX0_isStrand_18 (by decide) ?_
        refine r_goto 23 dX0_isStrand_19 (by decide) ?_
        exact r_iret dX0_isStrand_23 rfl rfl (by simp_all [vB, sSt, sTh]) rfl
set_option maxHeartbeats 1000000 in
theorem k_isThere_t {E : xCl} {ex : Bool} {I : Nat → Nat → Int32} {J : Nat → Nat → Int64} {P : Nat → Nat → Nat} (hP : Pok P) {b : Nat} (hb : b ∈ BR) {i : Int32} (h : sTh (vB I b) i) (d : Nat) : xEx E ex (d + 2) yX0_isThere [.ref b, .int i] (SH, I, J, P) (some (.int 1)) (SH, I, J, P) := by
  refine x_enter cqX0_isThere [some (.ref b), some (.int i)] rfl (by simp [lg_sl, Value.category]) ?_
  refine r_aload_n dX0_isThere_0 rfl ?_
  refine r_iload_n dX0_isThere_1 rfl ?_
  by_cases h2 : sSt (vB I b) i
  · refine r_cV1i dX0_isThere_2 vlX0_68 (br_s _ hb) (Nat.le_of_ble_eq_true rfl) (k_isStrand_t hb h2 d) ?_
    refine r_if_eq 21 dX0_isThere_5 (by decide) (fun c5 => ?_) (fun c5 => ?_)
    · exact absurd c5 (by decide)
    · refine r_aload_n dX0_isThere_8 rfl ?_
      refine r_getR dX0_isThere_9 flX0_36 (br_s _ hb) (by decide) rfl (br_p9 hP _ hb) ?_
      refine r_iload_n dX0_isThere_12 rfl ?_
      refine r_ial dX0_isThere_13 (br_a9 _ hb) (vin12 h2.1 h2.2.2) ?_
      refine r_if_ne 21 dX0_isThere_14 (by decide) (fun c14 => ?_) (fun c14 => ?_)
      · refine r_iconst (v := 0) dX0_isThere_21 (by decide) ?_
        exact r_iret dX0_isThere_22 rfl rfl (by simp_all [vB, sSt, sTh]) rfl
      · refine r_iconst (v := 1) dX0_isThere_17 (by decide) ?_
        refine r_goto 22 dX0_isThere_18 (by decide) ?_
        exact r_iret dX0_isThere_22 rfl rfl (by simp_all [vB, sSt, sTh]) rfl
  · refine r_cV1i dX0_isThere_2 vlX0_68 (br_s _ hb) (Nat.le_of_ble_eq_true rfl) (k_isStrand_f hb h2 d) ?_
    refine r_if_eq 21 dX0_isThere_5 (by decide) (fun c5 => ?_) (fun c5 => ?_)
    · refine r_iconst (v := 0) dX0_isThere_21 (by decide) ?_
      exact r_iret dX0_isThere_22 rfl rfl (by simp_all [vB, sSt, sTh]) rfl
    · exact absurd c5 (by decide)
set_option maxHeartbeats 1000000 in
theorem k_isThere_f {E : xCl} {ex : Bool} {I : Nat → Nat → Int32} {J : Nat → Nat → Int64} {P : Nat → Nat → Nat} (hP : Pok P) {b : Nat} (hb : b ∈ BR) {i : Int32} (h : ¬ sTh (vB I b) i) (d : Nat) : xEx E ex (d + 2) yX0_isThere [.ref b, .int i] (SH, I, J, P) (some (.int 0)) (SH, I, J, P) := by
  refine x_enter cqX0_isThere [some (.ref b), some (.int i)] rfl (by simp [lg_sl, Value.category]) ?_
  refine r_aload_n dX0_isThere_0 rfl ?_
  refine r_iload_n dX0_isThere_1 rfl ?_
  by_cases h2 : sSt (vB I b) i
  · refine r_cV1i dX0_isThere_2 vlX0_68 (br_s _ hb) (Nat.le_of_ble_eq_true rfl) (k_isStrand_t hb h2 d) ?_
    refine r_if_eq 21 dX0_isThere_5 (by decide) (fun c5 => ?_) (fun c5 => ?_)
    · exact absurd c5 (by decide)
    · refine r_aload_n dX0_isThere_8 rfl ?_
      refine r_getR dX0_isThere_9 flX0_36 (br_s _ hb) (by decide) rfl (br_p9 hP _ hb) ?_
      refine r_iload_n dX0_isThere_12 rfl ?_
      refine r_ial dX0_isThere_13 (br_a9 _ hb) (vin12 h2.1 h2.2.2) ?_
      refine r_if_ne 21 dX0_isThere_14 (by decide) (fun c14 => ?_) (fun c14 => ?_)
      · refine r_iconst (v := 0) dX0_isThere_21 (by decide) ?_
        exact r_iret dX0_isThere_22 rfl rfl (by simp_all [vB, sSt, sTh]) rfl
      · refine r_iconst (v := 1) dX0_isThere_17 (by decide) ?_
        refine r_goto 22 dX0_isThere_18 (by decide) ?_
        exact r_iret dX0_isThere_22 rfl rfl (by simp_all [vB, sSt, sTh]) rfl
  · refine r_cV1i dX0_isThere_2 vlX0_68 (br_s _ hb) (Nat.le_of_ble_eq_true rfl) (k_isStrand_f hb h2 d) ?_
    refine r_if_eq 21 dX0_isThere_5 (by decide) (fun c5 => ?_) (fun c5 => ?_)
    · refine r_iconst (v := 0) dX0_isThere_21 (by decide) ?_
      exact r_iret dX0_isThere_22 rfl rfl (by simp_all [vB, sSt, sTh]) rfl
    · exact absurd c5 (by decide)
set_option maxHeartbeats 1000000 in
theorem k_twoOf {E : xCl} {ex : Bool} {I : Nat → Nat → Int32} {J : Nat → Nat → Int64} {P : Nat → Nat → Nat} (hP : Pok P) {b : Nat} (hb : b ∈ BR) {i : Int32} (hi : vp_in i 12) (d : Nat) : xEx E ex (d + 3) yX0_twoOf [.ref b, .int i] (SH, I, J, P) (some (.int (sTwo (vB I b) i))) (SH, I, J, P) := by
  refine x_enter cqX0_twoOf [some (.ref b), some (.int i)] rfl (by simp [lg_sl, Value.category]) ?_
  refine r_aload_n dX0_twoOf_0 rfl ?_
  refine r_aload_n dX0_twoOf_1 rfl ?_
  refine r_getR dX0_twoOf_2 flX0_39 (br_s _ hb) (by decide) rfl (br_p10 hP _ hb) ?_
  refine r_iload_n dX0_twoOf_5 rfl ?_
  refine r_ial dX0_twoOf_6 (br_a10 _ hb) hi ?_
  by_cases h7 : sTh (vB I b) (vB I b 10 i.toNatClampNeg)
  · refine r_cV1i dX0_twoOf_7 vlX0_72 (br_s _ hb) (Nat.le_of_ble_eq_true rfl) (k_isThere_t hP hb h7 d) ?_
    refine r_if_eq 17 dX0_twoOf_10 (by decide) (fun c10 => ?_) (fun c10 => ?_)
    · exact absurd c10 (by decide)
    · refine r_iconst (v := 1) dX0_twoOf_13 (by decide) ?_
      refine r_goto 18 dX0_twoOf_14 (by decide) ?_
      exact r_iret dX0_twoOf_18 rfl rfl (by simp_all [sTwo, sSt, sTh]) rfl
  · refine r_cV1i dX0_twoOf_7 vlX0_72 (br_s _ hb) (Nat.le_of_ble_eq_true rfl) (k_isThere_f hP hb h7 d) ?_
    refine r_if_eq 17 dX0_twoOf_10 (by decide) (fun c10 => ?_) (fun c10 => ?_)
    · refine r_iconst (v := 0) dX0_twoOf_17 (by decide) ?_
      exact r_iret dX0_twoOf_18 rfl rfl (by simp_all [sTwo, sSt, sTh]) rfl
    · exact absurd c10 (by decide)
