/-! a bridge by its view: V f k is what stands at place k of its field f (1 purse .. 11 outcome; 12 paintedBits, 13 strands, 14 plank, 15 year at place 0); wB I b V: the numbers I with V as the bridge b -/
/-- how long a bridge's rows are -/
def bl (f : Nat) : Nat := if f = 1 ∨ f = 2 then 6 else if f = 11 then 8 else 12
def wB (I : Nat → Nat → Int32) (b : Nat) (V : Nat → Nat → Int32) : Nat → Nat → Int32 := fun a k => if a = b then (if 12 ≤ k ∧ k < 16 then V k 0 else I a k) else if (b < a ∧ a ≤ b + 11) ∧ k < bl (a - b) then V (a - b) k else I a k
theorem vlt {i : Int32} {n : Nat} (h : vp_in i n) : i.toNatClampNeg < n := Nat.not_le.mp (fun q => h (Or.inr q))
def vB (I : Nat → Nat → Int32) (b : Nat) : Nat → Nat → Int32 := fun f k => if f < 12 then I (b + f) k else I b f
theorem wB_vB (I : Nat → Nat → Int32) (b : Nat) : wB I b (vB I b) = I := by
  funext a k
  simp only [wB, vB]
  by_cases h : a = b
  · subst h
    by_cases hk : 12 ≤ k ∧ k < 16
    · simp [hk, Nat.not_lt.mpr hk.1]
    · simp [hk]
  · simp only [h, if_false]
    by_cases h2 : (b < a ∧ a ≤ b + 11) ∧ k < bl (a - b)
    · rw [if_pos h2, if_pos (by omega), show b + (a - b) = a by omega]
    · rw [if_neg h2]
theorem wB_ext (I : Nat → Nat → Int32) (b : Nat) {V W : Nat → Nat → Int32} (h1 : ∀ f k, 0 < f → f < 12 → k < bl f → V f k = W f k) (h2 : ∀ f, 12 ≤ f → f < 16 → V f 0 = W f 0) : wB I b V = wB I b W := by
  funext a k
  simp only [wB]
  by_cases h : a = b
  · subst h
    simp only [if_true]
    by_cases hk : 12 ≤ k ∧ k < 16
    · rw [if_pos hk, if_pos hk, h2 k hk.1 hk.2]
    · rw [if_neg hk, if_neg hk]
  · simp only [h, if_false]
    by_cases h3 : (b < a ∧ a ≤ b + 11) ∧ k < bl (a - b)
    · rw [if_pos h3, if_pos h3, h1 _ _ (by omega) (by omega) h3.2]
    · rw [if_neg h3, if_neg h3]
theorem wB_wB (I : Nat → Nat → Int32) (b : Nat) (V V' : Nat → Nat → Int32) : wB (wB I b V) b V' = wB I b V' := by
  funext a k
  simp only [wB]
  split
  · split <;> rfl
  · split <;> rfl
theorem wB_a (I : Nat → Nat → Int32) (b : Nat) (V : Nat → Nat → Int32) {f : Nat} (h1 : 0 < f) (h2 : f < 12) {k : Nat} (hk : k < bl f) : wB I b V (b + f) k = V f k := by
  simp only [wB]
  rw [if_neg (by omega), show b + f - b = f by omega, if_pos ⟨by omega, hk⟩]
theorem wB_i (I : Nat → Nat → Int32) (b : Nat) (V : Nat → Nat → Int32) {f : Nat} (h : 12 ≤ f ∧ f < 16) : wB I b V b f = V f 0 := by
  simp only [wB, if_true, if_pos h]
theorem wB_o (I : Nat → Nat → Int32) (b : Nat) (V : Nat → Nat → Int32) {a : Nat} (h : a < b ∨ b + 11 < a) (k : Nat) : wB I b V a k = I a k := by
  simp only [wB]
  rw [if_neg (by omega), if_neg (by omega)]
theorem wB_xa (I : Nat → Nat → Int32) (b : Nat) (V : Nat → Nat → Int32) {f : Nat} (h1 : 0 < f) (h2 : f < 12) {k : Nat} (hk : k < bl f) (v : Int32) : xu (wB I b V) (b + f) k v = wB I b (xu V f k v) := by
  funext a' k'
  simp only [wB, xu]
  by_cases h : a' = b
  · subst h
    rw [if_neg (by omega)]
    simp only [if_true]
    by_cases hk : 12 ≤ k' ∧ k' < 16
    · rw [if_pos hk, if_pos hk, if_neg (by omega)]
    · rw [if_neg hk, if_neg hk]
  · simp only [h, if_false]
    by_cases h3 : (b < a' ∧ a' ≤ b + 11) ∧ k' < bl (a' - b)
    · rw [if_pos h3, if_pos h3]
      by_cases h4 : a' = b + f
      · subst h4
        simp only [true_and, show b + f - b = f by omega]
      · rw [if_neg (fun q => h4 q.1), if_neg (fun q => h4 (by omega))]
    · rw [if_neg h3, if_neg h3, if_neg (fun q => h3 ⟨by omega, by rw [q.1, q.2, show b + f - b = f by omega]; exact hk⟩)]
theorem wB_xi (I : Nat → Nat → Int32) (b : Nat) (V : Nat → Nat → Int32) {f : Nat} (h : 12 ≤ f ∧ f < 16) (v : Int32) : xu (wB I b V) b f v = wB I b (xu V f 0 v) := by
  funext a' k'
  simp only [wB, xu]
  by_cases h1 : a' = b
  · subst h1
    simp only [if_true, true_and]
    by_cases hk : k' = f
    · subst hk
      simp [h]
    · simp only [hk, if_false, false_and]
  · simp only [h1, if_false, false_and]
    by_cases h3 : (b < a' ∧ a' ≤ b + 11) ∧ k' < bl (a' - b)
    · rw [if_pos h3, if_pos h3, if_neg (by omega)]
    · rw [if_neg h3, if_neg h3]
theorem br_br : ∀ b ∈ BR, ∀ o ∈ BR, o ≠ b → ∀ f, f < 12 → (o + f < b ∨ b + 11 < o + f) := by decide +kernel
theorem br_tl : ∀ b ∈ BR, ∀ t ∈ TL, ∀ o, o < 13 → (t + o < b ∨ b + 11 < t + o) := by decide +kernel
theorem wB_t (I : Nat → Nat → Int32) {b : Nat} (hb : b ∈ BR) (V : Nat → Nat → Int32) {t : Nat} (ht : t ∈ TL) {o : Nat} (ho : o < 13) (k : Nat) : wB I b V (t + o) k = I (t + o) k := wB_o I b V (br_tl b hb t ht o ho) k
theorem wB_t0 (I : Nat → Nat → Int32) {b : Nat} (hb : b ∈ BR) (V : Nat → Nat → Int32) {t : Nat} (ht : t ∈ TL) (k : Nat) : wB I b V t k = I t k := wB_o I b V (br_tl b hb t ht 0 (by omega)) k
theorem xu_f {α : Type} (f : Nat → Nat → α) {a k a' k' : Nat} (v : α) (h : a' ≠ a) : xu f a k v a' k' = f a' k' := by simp [xu, h]
theorem xu_s {α : Type} (f : Nat → Nat → α) (a k : Nat) (v : α) : xu f a k v a k = v := by simp [xu]
section RV
variable {call : xCl} {ex : Bool} {X : Option (Nat × (Nat → Int32))} {y : MethodName} {cc : ByteArray} {ret : Option FieldType} {pc : Nat} {ls : List (Option Value)} {st : List Value} {Q : Option Value → xS → Prop} {sh : List (xK × Nat)} {I : Nat → Nat → Int32} {J : Nat → Nat → Int64} {P : Nat → Nat → Nat}
theorem r_ialv {i v : Int32} {a n : Nat} (hd : decode cc pc = .ok (.iaload, 1)) (hs : sh[a]? = some (.inr 0, n)) (hi : vp_in i n) (hv : I a i.toNatClampNeg = v) (kk : xR call ex X y cc ret (pc + 1) ls (.int v :: st) (sh, I, J, P) Q) : xR call ex X y cc ret pc ls (.int i :: .ref a :: st) (sh, I, J, P) Q := by subst hv; exact r_ial hd hs hi kk
theorem r_iasv {i x : Int32} {a n : Nat} {I' : Nat → Nat → Int32} (hd : decode cc pc = .ok (.iastore, 1)) (hs : sh[a]? = some (.inr 0, n)) (hi : vp_in i n) (hv : xu I a i.toNatClampNeg x = I') (kk : xR call ex X y cc ret (pc + 1) ls st (sh, I', J, P) Q) : xR call ex X y cc ret pc ls (.int x :: .int i :: .ref a :: st) (sh, I, J, P) Q := by subst hv; exact r_ias hd hs hi kk
theorem r_getIv {idx ci k : Nat} {ty : FieldType} {N a : Nat} {v : Int32} (hd : decode cc pc = .ok (.getfield idx, 3)) (hf : xFl y.cls idx ci k ty) (hs : sh[a]? = some (.inl ci, N)) (hk : k < N) (hz : xfk ci k = 0) (hv : I a k = v) (kk : xR call ex X y cc ret (pc + 3) ls (.int v :: st) (sh, I, J, P) Q) : xR call ex X y cc ret pc ls (.ref a :: st) (sh, I, J, P) Q := by subst hv; exact r_getI hd hf hs hk hz kk
theorem r_putIv {idx ci k : Nat} {ty : FieldType} {N a : Nat} {I' : Nat → Nat → Int32} (hd : decode cc pc = .ok (.putfield idx, 3)) (hf : xFl y.cls idx ci k ty) (hn : xFin y ci k) (hs : sh[a]? = some (.inl ci, N)) (hk : k < N) (hz : xfk ci k = 0) {x : Int32} (h1 : narrow ty (.int x) = .int x) (h2 : fits ty (.int x) = true) (hv : xu I a k x = I') (kk : xR call ex X y cc ret (pc + 3) ls st (sh, I', J, P) Q) : xR call ex X y cc ret pc ls (.int x :: .ref a :: st) (sh, I, J, P) Q := by subst hv; exact r_putI hd hf hn hs hk hz h1 h2 kk
theorem r_acv {idx : Nat} {n dp sp : Int32} {a0 a1 n0 n1 : Nat} {I' : Nat → Nat → Int32} (hd : decode cc pc = .ok (.invokestatic idx, 3)) (hl : Cond.methodLink y.cls idx arraycopyName ∈ xgw) (hs0 : sh[a0]? = some (.inr 0, n0)) (hs1 : sh[a1]? = some (.inr 0, n1)) (h1 : ¬ sp < 0) (h2 : ¬ dp < 0) (h3 : ¬ n < 0) (h4 : sp.toNatClampNeg + n.toNatClampNeg ≤ n0) (h5 : dp.toNatClampNeg + n.toNatClampNeg ≤ n1) (hc : (st.map fun v => v.category).sum ≤ 8) (hv : xcp I a0 sp.toNatClampNeg a1 dp.toNatClampNeg n.toNatClampNeg = I') (kk : xR call ex X y cc ret (pc + 3) ls st (sh, I', J, P) Q) : xR call ex X y cc ret pc ls (.int n :: .int dp :: .ref a1 :: .int sp :: .ref a0 :: st) (sh, I, J, P) Q := by subst hv; exact r_ac hd hl hs0 hs1 h1 h2 h3 h4 h5 hc kk
end RV
/-! the words of the document over a view -/
abbrev sSt (V : Nat → Nat → Int32) (i : Int32) : Prop := ¬ i < 0 ∧ ¬ V 13 0 ≤ i ∧ ¬ 12 ≤ i
abbrev sTh (V : Nat → Nat → Int32) (i : Int32) : Prop := sSt V i ∧ V 9 i.toNatClampNeg = 0
def sTwo (V : Nat → Nat → Int32) (i : Int32) : Int32 := if sTh V (V 10 i.toNatClampNeg) then 1 else 0
/-- the seven names of the laws for a strand -/
def sN7 (x0 x1 x2 x3 x4 x5 x6 : Int32) : Nat → Int64 := fun k => match k with
  | 0 => x0.toInt64
  | 1 => x1.toInt64
  | 2 => x2.toInt64
  | 3 => x3.toInt64
  | 4 => x4.toInt64
  | 5 => x5.toInt64
  | _ => x6.toInt64
def sNm (V : Nat → Nat → Int32) (i two : Int32) : Nat → Int64 := sN7 (V 5 i.toNatClampNeg) (V 6 i.toNatClampNeg) (V 15 0 - V 8 i.toNatClampNeg) (V 7 i.toNatClampNeg) (V 15 0) (V 1 (V 3 i.toNatClampNeg).toNatClampNeg) two
def sWi (v : Option Int64) (most wo : Int32) : Int32 := match v with
  | none => wo
  | some x => if x < 0 then 0 else if most.toInt64 < x then most else x.toInt32
theorem vin12 {i : Int32} (h0 : ¬ i < 0) (h1 : ¬ 12 ≤ i) : vp_in i 12 := vin h0 h1 rfl
theorem sTh.in {V : Nat → Nat → Int32} {i : Int32} (h : sTh V i) : vp_in i 12 := vin12 h.1.1 h.1.2.2
/-- what holds of a bridge at every time: at most 12 strands, people by numbers below 6 -/
def Vok (V : Nat → Nat → Int32) (n : Nat) : Prop := n ≤ 12 ∧ V 13 0 = nI n ∧ (∀ k, vp_in (V 3 k) 6) ∧ ∀ k, vp_in (V 4 k) 6
theorem Vok.i {V : Nat → Nat → Int32} {n j : Nat} (h : Vok V n) (hj : j < n) : vp_in (nI j) 12 := vp_in_nI (by have := h.1; omega) (by omega)
theorem Vok.c {V : Nat → Nat → Int32} {n j : Nat} (h : Vok V n) (hj : j < n) : (nI j).toNatClampNeg = j := nI_clamp (by have := h.1; omega)
theorem Vok.g {V : Nat → Nat → Int32} {n j : Nat} (h : Vok V n) (hj : j < n) : ¬ V 13 0 ≤ nI j := by rw [h.2.1]; exact nI_ge hj (by have := h.1; omega)
theorem Vok.l {V : Nat → Nat → Int32} {n : Nat} (h : Vok V n) : V 13 0 ≤ nI n := by rw [h.2.1]; exact nI_le (Nat.le_refl _) (by have := h.1; omega)
theorem lt12 {j : Nat} (h : j < 12) : ¬ (12 : Int32) ≤ nI j := fun q => nI_ge (a := j) (b := 12) h (by omega) q
theorem lt8 {j : Nat} (h : j < 8) : ¬ (8 : Int32) ≤ nI j := fun q => nI_ge (a := j) (b := 8) h (by omega) q
theorem Vok.t {V : Nat → Nat → Int32} {n j : Nat} (h : Vok V n) (hj : j < n) : sTh V (nI j) ↔ V 9 j = 0 := by
  constructor
  · intro q; have := q.2; rwa [h.c hj] at this
  · intro q
    refine ⟨⟨nI_pos (by have := h.1; omega), h.g hj, lt12 (by have := h.1; omega)⟩, ?_⟩
    rw [h.c hj]; exact q

set_option maxHeartbeats 1000000 in
theorem k_isStrand_t {E : xCl} {ex : Bool} {I V : Nat → Nat → Int32} {J : Nat → Nat → Int64} {P : Nat → Nat → Nat} {b : Nat} (hb : b ∈ BR) {i : Int32} (h : sSt V i) (d : Nat) : xEx E ex (d + 1) yX0_isStrand [.ref b, .int i] (SH, wB I b V, J, P) (some (.int 1)) (SH, wB I b V, J, P) := by
  refine x_enter cqX0_isStrand [some (.ref b), some (.int i)] rfl (by simp [lg_sl, Value.category]) ?_
  refine r_iload_n dX0_isStrand_0 rfl ?_
  refine r_if_lt 22 dX0_isStrand_1 (by decide) (fun c1 => ?_) (fun c1 => ?_)
  · refine r_iconst (v := 0) dX0_isStrand_22 (by decide) ?_
    exact r_iret dX0_isStrand_23 rfl rfl (by simp_all [sSt]) rfl
  · refine r_iload_n dX0_isStrand_4 rfl ?_
    refine r_aload_n dX0_isStrand_5 rfl ?_
    refine r_getIv dX0_isStrand_6 flX0_57 (br_s _ hb) (by decide) rfl (wB_i _ _ _ (by decide)) ?_
    refine r_ic_ge 22 dX0_isStrand_9 (by decide) (fun c9 => ?_) (fun c9 => ?_)
    · refine r_iconst (v := 0) dX0_isStrand_22 (by decide) ?_
      exact r_iret dX0_isStrand_23 rfl rfl (by simp_all [sSt]) rfl
    · refine r_iload_n dX0_isStrand_12 rfl ?_
      refine r_bipush (v := 12) dX0_isStrand_13 (by decide) ?_
      refine r_ic_ge 22 dX0_isStrand_15 (by decide) (fun c15 => ?_) (fun c15 => ?_)
      · refine r_iconst (v := 0) dX0_isStrand_22 (by decide) ?_
        exact r_iret dX0_isStrand_23 rfl rfl (by simp_all [sSt]) rfl
      · refine r_iconst (v := 1) dX0_isStrand_18 (by decide) ?_
        refine r_goto 23 dX0_isStrand_19 (by decide) ?_
        exact r_iret dX0_isStrand_23 rfl rfl (by simp_all [sSt]) rfl
set_option maxHeartbeats 1000000 in
theorem k_isStrand_f {E : xCl} {ex : Bool} {I V : Nat → Nat → Int32} {J : Nat → Nat → Int64} {P : Nat → Nat → Nat} {b : Nat} (hb : b ∈ BR) {i : Int32} (h : ¬ sSt V i) (d : Nat) : xEx E ex (d + 1) yX0_isStrand [.ref b, .int i] (SH, wB I b V, J, P) (some (.int 0)) (SH, wB I b V, J, P) := by
  refine x_enter cqX0_isStrand [some (.ref b), some (.int i)] rfl (by simp [lg_sl, Value.category]) ?_
  refine r_iload_n dX0_isStrand_0 rfl ?_
  refine r_if_lt 22 dX0_isStrand_1 (by decide) (fun c1 => ?_) (fun c1 => ?_)
  · refine r_iconst (v := 0) dX0_isStrand_22 (by decide) ?_
    exact r_iret dX0_isStrand_23 rfl rfl (by simp_all [sSt]) rfl
  · refine r_iload_n dX0_isStrand_4 rfl ?_
    refine r_aload_n dX0_isStrand_5 rfl ?_
    refine r_getIv dX0_isStrand_6 flX0_57 (br_s _ hb) (by decide) rfl (wB_i _ _ _ (by decide)) ?_
    refine r_ic_ge 22 dX0_isStrand_9 (by decide) (fun c9 => ?_) (fun c9 => ?_)
    · refine r_iconst (v := 0) dX0_isStrand_22 (by decide) ?_
      exact r_iret dX0_isStrand_23 rfl rfl (by simp_all [sSt]) rfl
    · refine r_iload_n dX0_isStrand_12 rfl ?_
      refine r_bipush (v := 12) dX0_isStrand_13 (by decide) ?_
      refine r_ic_ge 22 dX0_isStrand_15 (by decide) (fun c15 => ?_) (fun c15 => ?_)
      · refine r_iconst (v := 0) dX0_isStrand_22 (by decide) ?_
        exact r_iret dX0_isStrand_23 rfl rfl (by simp_all [sSt]) rfl
      · refine r_iconst (v := 1) dX0_isStrand_18 (by decide) ?_
        refine r_goto 23 dX0_isStrand_19 (by decide) ?_
        exact r_iret dX0_isStrand_23 rfl rfl (by simp_all [sSt]) rfl
set_option maxHeartbeats 1000000 in
theorem k_isThere_t {E : xCl} {ex : Bool} {I V : Nat → Nat → Int32} {J : Nat → Nat → Int64} {P : Nat → Nat → Nat} (hP : Pok P) {b : Nat} (hb : b ∈ BR) {i : Int32} (h : sTh V i) (d : Nat) : xEx E ex (d + 2) yX0_isThere [.ref b, .int i] (SH, wB I b V, J, P) (some (.int 1)) (SH, wB I b V, J, P) := by
  refine x_enter cqX0_isThere [some (.ref b), some (.int i)] rfl (by simp [lg_sl, Value.category]) ?_
  refine r_aload_n dX0_isThere_0 rfl ?_
  refine r_iload_n dX0_isThere_1 rfl ?_
  by_cases h2 : sSt V i
  · refine r_cV1i dX0_isThere_2 vlX0_72 (br_s _ hb) (Nat.le_of_ble_eq_true rfl) (k_isStrand_t hb h2 d) ?_
    refine r_if_eq 21 dX0_isThere_5 (by decide) (fun c5 => ?_) (fun c5 => ?_)
    · exact absurd c5 (by decide)
    · refine r_aload_n dX0_isThere_8 rfl ?_
      refine r_getR dX0_isThere_9 flX0_36 (br_s _ hb) (by decide) rfl (br_p9 hP _ hb) ?_
      refine r_iload_n dX0_isThere_12 rfl ?_
      refine r_ialv dX0_isThere_13 (br_a9 _ hb) (vin12 h2.1 h2.2.2) (wB_a _ _ _ (by decide) (by decide) (vlt (vin12 h2.1 h2.2.2))) ?_
      refine r_if_ne 21 dX0_isThere_14 (by decide) (fun c14 => ?_) (fun c14 => ?_)
      · refine r_iconst (v := 0) dX0_isThere_21 (by decide) ?_
        exact r_iret dX0_isThere_22 rfl rfl (by simp_all [sSt, sTh]) rfl
      · refine r_iconst (v := 1) dX0_isThere_17 (by decide) ?_
        refine r_goto 22 dX0_isThere_18 (by decide) ?_
        exact r_iret dX0_isThere_22 rfl rfl (by simp_all [sSt, sTh]) rfl
  · refine r_cV1i dX0_isThere_2 vlX0_72 (br_s _ hb) (Nat.le_of_ble_eq_true rfl) (k_isStrand_f hb h2 d) ?_
    refine r_if_eq 21 dX0_isThere_5 (by decide) (fun c5 => ?_) (fun c5 => ?_)
    · refine r_iconst (v := 0) dX0_isThere_21 (by decide) ?_
      exact r_iret dX0_isThere_22 rfl rfl (by simp_all [sSt, sTh]) rfl
    · exact absurd c5 (by decide)
set_option maxHeartbeats 1000000 in
theorem k_isThere_f {E : xCl} {ex : Bool} {I V : Nat → Nat → Int32} {J : Nat → Nat → Int64} {P : Nat → Nat → Nat} (hP : Pok P) {b : Nat} (hb : b ∈ BR) {i : Int32} (h : ¬ sTh V i) (d : Nat) : xEx E ex (d + 2) yX0_isThere [.ref b, .int i] (SH, wB I b V, J, P) (some (.int 0)) (SH, wB I b V, J, P) := by
  refine x_enter cqX0_isThere [some (.ref b), some (.int i)] rfl (by simp [lg_sl, Value.category]) ?_
  refine r_aload_n dX0_isThere_0 rfl ?_
  refine r_iload_n dX0_isThere_1 rfl ?_
  by_cases h2 : sSt V i
  · refine r_cV1i dX0_isThere_2 vlX0_72 (br_s _ hb) (Nat.le_of_ble_eq_true rfl) (k_isStrand_t hb h2 d) ?_
    refine r_if_eq 21 dX0_isThere_5 (by decide) (fun c5 => ?_) (fun c5 => ?_)
    · exact absurd c5 (by decide)
    · refine r_aload_n dX0_isThere_8 rfl ?_
      refine r_getR dX0_isThere_9 flX0_36 (br_s _ hb) (by decide) rfl (br_p9 hP _ hb) ?_
      refine r_iload_n dX0_isThere_12 rfl ?_
      refine r_ialv dX0_isThere_13 (br_a9 _ hb) (vin12 h2.1 h2.2.2) (wB_a _ _ _ (by decide) (by decide) (vlt (vin12 h2.1 h2.2.2))) ?_
      refine r_if_ne 21 dX0_isThere_14 (by decide) (fun c14 => ?_) (fun c14 => ?_)
      · refine r_iconst (v := 0) dX0_isThere_21 (by decide) ?_
        exact r_iret dX0_isThere_22 rfl rfl (by simp_all [sSt, sTh]) rfl
      · refine r_iconst (v := 1) dX0_isThere_17 (by decide) ?_
        refine r_goto 22 dX0_isThere_18 (by decide) ?_
        exact r_iret dX0_isThere_22 rfl rfl (by simp_all [sSt, sTh]) rfl
  · refine r_cV1i dX0_isThere_2 vlX0_72 (br_s _ hb) (Nat.le_of_ble_eq_true rfl) (k_isStrand_f hb h2 d) ?_
    refine r_if_eq 21 dX0_isThere_5 (by decide) (fun c5 => ?_) (fun c5 => ?_)
    · refine r_iconst (v := 0) dX0_isThere_21 (by decide) ?_
      exact r_iret dX0_isThere_22 rfl rfl (by simp_all [sSt, sTh]) rfl
    · exact absurd c5 (by decide)
set_option maxHeartbeats 1000000 in
theorem k_twoOf {E : xCl} {ex : Bool} {I V : Nat → Nat → Int32} {J : Nat → Nat → Int64} {P : Nat → Nat → Nat} (hP : Pok P) {b : Nat} (hb : b ∈ BR) {i : Int32} (hi : vp_in i 12) (d : Nat) : xEx E ex (d + 3) yX0_twoOf [.ref b, .int i] (SH, wB I b V, J, P) (some (.int (sTwo V i))) (SH, wB I b V, J, P) := by
  refine x_enter cqX0_twoOf [some (.ref b), some (.int i)] rfl (by simp [lg_sl, Value.category]) ?_
  refine r_aload_n dX0_twoOf_0 rfl ?_
  refine r_aload_n dX0_twoOf_1 rfl ?_
  refine r_getR dX0_twoOf_2 flX0_39 (br_s _ hb) (by decide) rfl (br_p10 hP _ hb) ?_
  refine r_iload_n dX0_twoOf_5 rfl ?_
  refine r_ialv dX0_twoOf_6 (br_a10 _ hb) hi (wB_a _ _ _ (by decide) (by decide) (vlt hi)) ?_
  by_cases h7 : sTh V (V 10 i.toNatClampNeg)
  · refine r_cV1i dX0_twoOf_7 vlX0_76 (br_s _ hb) (Nat.le_of_ble_eq_true rfl) (k_isThere_t hP hb h7 d) ?_
    refine r_if_eq 17 dX0_twoOf_10 (by decide) (fun c10 => ?_) (fun c10 => ?_)
    · exact absurd c10 (by decide)
    · refine r_iconst (v := 1) dX0_twoOf_13 (by decide) ?_
      refine r_goto 18 dX0_twoOf_14 (by decide) ?_
      exact r_iret dX0_twoOf_18 rfl rfl (by simp_all [sTwo, sSt, sTh]) rfl
  · refine r_cV1i dX0_twoOf_7 vlX0_76 (br_s _ hb) (Nat.le_of_ble_eq_true rfl) (k_isThere_f hP hb h7 d) ?_
    refine r_if_eq 17 dX0_twoOf_10 (by decide) (fun c10 => ?_) (fun c10 => ?_)
    · refine r_iconst (v := 0) dX0_twoOf_17 (by decide) ?_
      exact r_iret dX0_twoOf_18 rfl rfl (by simp_all [sTwo, sSt, sTh]) rfl
    · exact absurd c10 (by decide)
/-- a strand can be paid now -/
abbrev sCan (V : Nat → Nat → Int32) (i : Int32) : Prop := sTh V i ∧ ¬ V 1 (V 3 i.toNatClampNeg).toNatClampNeg < V 5 i.toNatClampNeg
set_option maxHeartbeats 1000000 in
theorem k_canPay_t {E : xCl} {ex : Bool} {I V : Nat → Nat → Int32} {J : Nat → Nat → Int64} {P : Nat → Nat → Nat} (hP : Pok P) {b : Nat} (hb : b ∈ BR) {n : Nat} (hv : Vok V n) {i : Int32} (h : sCan V i) (d : Nat) : xEx E ex (d + 3) yX0_canPay [.ref b, .int i] (SH, wB I b V, J, P) (some (.int 1)) (SH, wB I b V, J, P) := by
  refine x_enter cqX0_canPay [some (.ref b), some (.int i)] rfl (by simp [lg_sl, Value.category]) ?_
  refine r_aload_n dX0_canPay_0 rfl ?_
  refine r_iload_n dX0_canPay_1 rfl ?_
  by_cases h2 : sTh V i
  · refine r_cV1i dX0_canPay_2 vlX0_76 (br_s _ hb) (Nat.le_of_ble_eq_true rfl) (k_isThere_t hP hb h2 d) ?_
    refine r_if_eq 32 dX0_canPay_5 (by decide) (fun c5 => ?_) (fun c5 => ?_)
    · exact absurd c5 (by decide)
    · refine r_aload_n dX0_canPay_8 rfl ?_
      refine r_getR dX0_canPay_9 flX0_9 (br_s _ hb) (by decide) rfl (br_p1 hP _ hb) ?_
      refine r_aload_n dX0_canPay_12 rfl ?_
      refine r_getR dX0_canPay_13 flX0_18 (br_s _ hb) (by decide) rfl (br_p3 hP _ hb) ?_
      refine r_iload_n dX0_canPay_16 rfl ?_
      refine r_ialv dX0_canPay_17 (br_a3 _ hb) h2.in (wB_a _ _ _ (by decide) (by decide) (vlt h2.in)) ?_
      refine r_ialv dX0_canPay_18 (br_a1 _ hb) (hv.2.2.1 _) (wB_a _ _ _ (by decide) (by decide) (vlt (hv.2.2.1 _))) ?_
      refine r_aload_n dX0_canPay_19 rfl ?_
      refine r_getR dX0_canPay_20 flX0_24 (br_s _ hb) (by decide) rfl (br_p5 hP _ hb) ?_
      refine r_iload_n dX0_canPay_23 rfl ?_
      refine r_ialv dX0_canPay_24 (br_a5 _ hb) h2.in (wB_a _ _ _ (by decide) (by decide) (vlt h2.in)) ?_
      refine r_ic_lt 32 dX0_canPay_25 (by decide) (fun c25 => ?_) (fun c25 => ?_)
      · refine r_iconst (v := 0) dX0_canPay_32 (by decide) ?_
        exact r_iret dX0_canPay_33 rfl rfl (by simp_all [sCan]) rfl
      · refine r_iconst (v := 1) dX0_canPay_28 (by decide) ?_
        refine r_goto 33 dX0_canPay_29 (by decide) ?_
        exact r_iret dX0_canPay_33 rfl rfl (by simp_all [sCan]) rfl
  · refine r_cV1i dX0_canPay_2 vlX0_76 (br_s _ hb) (Nat.le_of_ble_eq_true rfl) (k_isThere_f hP hb h2 d) ?_
    refine r_if_eq 32 dX0_canPay_5 (by decide) (fun c5 => ?_) (fun c5 => ?_)
    · refine r_iconst (v := 0) dX0_canPay_32 (by decide) ?_
      exact r_iret dX0_canPay_33 rfl rfl (by simp_all [sCan]) rfl
    · exact absurd c5 (by decide)
set_option maxHeartbeats 1000000 in
theorem k_canPay_f {E : xCl} {ex : Bool} {I V : Nat → Nat → Int32} {J : Nat → Nat → Int64} {P : Nat → Nat → Nat} (hP : Pok P) {b : Nat} (hb : b ∈ BR) {n : Nat} (hv : Vok V n) {i : Int32} (h : ¬ sCan V i) (d : Nat) : xEx E ex (d + 3) yX0_canPay [.ref b, .int i] (SH, wB I b V, J, P) (some (.int 0)) (SH, wB I b V, J, P) := by
  refine x_enter cqX0_canPay [some (.ref b), some (.int i)] rfl (by simp [lg_sl, Value.category]) ?_
  refine r_aload_n dX0_canPay_0 rfl ?_
  refine r_iload_n dX0_canPay_1 rfl ?_
  by_cases h2 : sTh V i
  · refine r_cV1i dX0_canPay_2 vlX0_76 (br_s _ hb) (Nat.le_of_ble_eq_true rfl) (k_isThere_t hP hb h2 d) ?_
    refine r_if_eq 32 dX0_canPay_5 (by decide) (fun c5 => ?_) (fun c5 => ?_)
    · exact absurd c5 (by decide)
    · refine r_aload_n dX0_canPay_8 rfl ?_
      refine r_getR dX0_canPay_9 flX0_9 (br_s _ hb) (by decide) rfl (br_p1 hP _ hb) ?_
      refine r_aload_n dX0_canPay_12 rfl ?_
      refine r_getR dX0_canPay_13 flX0_18 (br_s _ hb) (by decide) rfl (br_p3 hP _ hb) ?_
      refine r_iload_n dX0_canPay_16 rfl ?_
      refine r_ialv dX0_canPay_17 (br_a3 _ hb) h2.in (wB_a _ _ _ (by decide) (by decide) (vlt h2.in)) ?_
      refine r_ialv dX0_canPay_18 (br_a1 _ hb) (hv.2.2.1 _) (wB_a _ _ _ (by decide) (by decide) (vlt (hv.2.2.1 _))) ?_
      refine r_aload_n dX0_canPay_19 rfl ?_
      refine r_getR dX0_canPay_20 flX0_24 (br_s _ hb) (by decide) rfl (br_p5 hP _ hb) ?_
      refine r_iload_n dX0_canPay_23 rfl ?_
      refine r_ialv dX0_canPay_24 (br_a5 _ hb) h2.in (wB_a _ _ _ (by decide) (by decide) (vlt h2.in)) ?_
      refine r_ic_lt 32 dX0_canPay_25 (by decide) (fun c25 => ?_) (fun c25 => ?_)
      · refine r_iconst (v := 0) dX0_canPay_32 (by decide) ?_
        exact r_iret dX0_canPay_33 rfl rfl (by simp_all [sCan]) rfl
      · refine r_iconst (v := 1) dX0_canPay_28 (by decide) ?_
        refine r_goto 33 dX0_canPay_29 (by decide) ?_
        exact r_iret dX0_canPay_33 rfl rfl (by simp_all [sCan]) rfl
  · refine r_cV1i dX0_canPay_2 vlX0_76 (br_s _ hb) (Nat.le_of_ble_eq_true rfl) (k_isThere_f hP hb h2 d) ?_
    refine r_if_eq 32 dX0_canPay_5 (by decide) (fun c5 => ?_) (fun c5 => ?_)
    · refine r_iconst (v := 0) dX0_canPay_32 (by decide) ?_
      exact r_iret dX0_canPay_33 rfl rfl (by simp_all [sCan]) rfl
    · exact absurd c5 (by decide)
/-- the strands that are there, as bits -/
def sTB (V : Nat → Nat → Int32) : Nat → Int32
  | 0 => 0
  | j + 1 => if V 9 j = 0 then sTB V j ||| (1 <<< (nI j &&& 31)) else sTB V j
set_option maxHeartbeats 1000000 in
theorem l_thereBits {E : xCl} {ex : Bool} {I V : Nat → Nat → Int32} {J : Nat → Nat → Int64} {P : Nat → Nat → Nat} (hP : Pok P) {b : Nat} (hb : b ∈ BR) {n : Nat} (hv : Vok V n) (d : Nat) : ∀ j, j ≤ n → xR (xEx E ex (d + 2)) ex none yX0_thereBits cX0_thereBits (some .int) 4 [some (.ref b), some (.int (sTB V j)), some (.int (nI j))] [] (SH, wB I b V, J, P) (xEq (some (.int (sTB V n))) (SH, wB I b V, J, P)) := by
  refine r_for (fun j => xR (xEx E ex (d + 2)) ex none yX0_thereBits cX0_thereBits (some .int) 4 [some (.ref b), some (.int (sTB V j)), some (.int (nI j))] [] (SH, wB I b V, J, P) (xEq (some (.int (sTB V n))) (SH, wB I b V, J, P))) _ ?_ ?_
  · intro j hj ih
    refine r_iload_n dX0_thereBits_4 rfl ?_
    refine r_aload_n dX0_thereBits_5 rfl ?_
    refine r_getIv dX0_thereBits_6 flX0_57 (br_s _ hb) (by decide) rfl (wB_i _ _ _ (by decide)) ?_
    refine r_ic_ge 32 dX0_thereBits_9 (by decide) (fun c9 => ?_) (fun c9 => ?_)
    · exact absurd c9 (hv.g hj)
    · refine r_aload_n dX0_thereBits_12 rfl ?_
      refine r_iload_n dX0_thereBits_13 rfl ?_
      by_cases h14 : sTh V (nI j)
      · refine r_cV1i dX0_thereBits_14 vlX0_76 (br_s _ hb) (Nat.le_of_ble_eq_true rfl) (k_isThere_t hP hb h14 d) ?_
        refine r_if_eq 26 dX0_thereBits_17 (by decide) (fun c17 => ?_) (fun c17 => ?_)
        · exact absurd c17 (by decide)
        · refine r_iload_n dX0_thereBits_20 rfl ?_
          refine r_iconst (v := 1) dX0_thereBits_21 (by decide) ?_
          refine r_iload_n dX0_thereBits_22 rfl ?_
          refine r_ishl dX0_thereBits_23 ?_
          refine r_ior dX0_thereBits_24 ?_
          refine r_istore_n1 dX0_thereBits_25 rfl ?_
          refine r_iinc2 (v := 1) dX0_thereBits_26 (by decide) rfl ?_
          refine r_goto 4 dX0_thereBits_29 (by decide) ?_
          rw [nI_1]; rw [sTB, if_pos ((hv.t hj).mp h14)] at ih; exact ih
      · refine r_cV1i dX0_thereBits_14 vlX0_76 (br_s _ hb) (Nat.le_of_ble_eq_true rfl) (k_isThere_f hP hb h14 d) ?_
        refine r_if_eq 26 dX0_thereBits_17 (by decide) (fun c17 => ?_) (fun c17 => ?_)
        · refine r_iinc2 (v := 1) dX0_thereBits_26 (by decide) rfl ?_
          refine r_goto 4 dX0_thereBits_29 (by decide) ?_
          rw [nI_1]; rw [sTB, if_neg (fun q => h14 ((hv.t hj).mpr q))] at ih; exact ih
        · exact absurd c17 (by decide)
  · refine r_iload_n dX0_thereBits_4 rfl ?_
    refine r_aload_n dX0_thereBits_5 rfl ?_
    refine r_getIv dX0_thereBits_6 flX0_57 (br_s _ hb) (by decide) rfl (wB_i _ _ _ (by decide)) ?_
    refine r_ic_ge 32 dX0_thereBits_9 (by decide) (fun c9 => ?_) (fun c9 => ?_)
    · refine r_iload_n dX0_thereBits_32 rfl ?_
      exact r_iret dX0_thereBits_33 rfl rfl rfl rfl
    · exact absurd hv.l c9
set_option maxHeartbeats 1000000 in
theorem k_thereBits {E : xCl} {ex : Bool} {I V : Nat → Nat → Int32} {J : Nat → Nat → Int64} {P : Nat → Nat → Nat} (hP : Pok P) {b : Nat} (hb : b ∈ BR) {n : Nat} (hv : Vok V n) (d : Nat) : xEx E ex (d + 3) yX0_thereBits [.ref b] (SH, wB I b V, J, P) (some (.int (sTB V n))) (SH, wB I b V, J, P) := by
  refine x_enter cqX0_thereBits [some (.ref b), none, none] rfl (by simp [lg_sl, Value.category]) ?_
  refine r_iconst (v := 0) dX0_thereBits_0 (by decide) ?_
  refine r_istore_n1 dX0_thereBits_1 rfl ?_
  refine r_iconst (v := 0) dX0_thereBits_2 (by decide) ?_
  refine r_istore_n2 dX0_thereBits_3 rfl ?_
  exact l_thereBits hP hb hv d 0 (Nat.zero_le n)
