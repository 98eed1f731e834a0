/-! the classes' facts, for all at once -/
set_option maxRecDepth 20000 in
theorem xin0 : ∀ w ∈ u_ws RX0 TX0 16, w ∈ lw_tbl := by decide +kernel
set_option maxRecDepth 20000 in
theorem xin1 : ∀ w ∈ u_ws RX1 TX1 7, w ∈ lw_tbl := by decide +kernel
set_option maxRecDepth 20000 in
theorem xin2 : ∀ w ∈ u_ws RX2 TX2 7, w ∈ lw_tbl := by decide +kernel
set_option maxRecDepth 20000 in
theorem xin3 : ∀ w ∈ u_ws RX3 TX3 1, w ∈ lw_tbl := by decide +kernel
set_option maxRecDepth 20000 in
theorem xin4 : ∀ w ∈ u_ws RX4 TX4 4, w ∈ lw_tbl := by decide +kernel
set_option maxRecDepth 20000 in
theorem xin5 : ∀ w ∈ u_ws RX5 TX5 6, w ∈ lw_tbl := by decide +kernel
set_option maxRecDepth 20000 in
theorem xin6 : ∀ w ∈ u_ws RX6 TX6 13, w ∈ lw_tbl := by decide +kernel
set_option maxRecDepth 20000 in
theorem xin7 : ∀ w ∈ u_ws RX7 TX7 7, w ∈ lw_tbl := by decide +kernel
set_option maxRecDepth 20000 in
theorem xin8 : ∀ w ∈ u_ws RX8 TX8 6, w ∈ lw_tbl := by decide +kernel
set_option maxRecDepth 20000 in
theorem xin9 : ∀ w ∈ u_ws RX9 TX9 2, w ∈ lw_tbl := by decide +kernel
set_option maxRecDepth 20000 in
theorem xin10 : ∀ w ∈ u_ws RX10 TX10 19, w ∈ lw_tbl := by decide +kernel
set_option maxRecDepth 20000 in
theorem xin11 : ∀ w ∈ u_ws RX11 TX11 91, w ∈ lw_tbl := by decide +kernel
def xdv (n : Nat) : Value := match n with
  | 0 => .int 0
  | 1 => .long 0
  | _ => .null
def xcf (ci : Nat) (C : String) (T : u_T) (N : Nat) : Prop := ∃ ty0 : Nat → FieldType, (∀ k, k < N → parseFieldDescriptor (T k).2.2.1 = some (ty0 k)) ∧ (∀ a, a < N → ∀ b, b < N → a ≠ b → (T a).2.1 ≠ (T b).2.1) ∧ (∀ w ∈ u_ws C T N, w ∈ xgw) ∧ ∀ k, k < N → defaultValue (ty0 k) = xdv (xfk ci k)
theorem xlay_good (C : String) (T : u_T) (k : Nat) : goodWord (u_lay C T k) = true := by unfold u_lay; split <;> rfl
theorem xin_good {C : String} {T : u_T} {N : Nat} (h : ∀ w ∈ u_ws C T N, w ∈ lw_tbl) : ∀ w ∈ u_ws C T N, w ∈ xgw := by
  intro w hw
  refine List.mem_filter.mpr ⟨h w hw, ?_⟩
  obtain ⟨k, -, rfl⟩ := List.mem_map.mp hw
  exact xlay_good C T k
theorem xcls {ci : Nat} {C : String} {T : u_T} {N : Nat} (h : vwCl[ci]? = some (C, T, N)) : xcf ci C T N := by
  match ci, h with
  | 0, h => cases h; exact ⟨tyX0, tyX0_ok, nmX0, xin_good xin0, by decide +kernel⟩
  | 1, h => cases h; exact ⟨tyX1, tyX1_ok, nmX1, xin_good xin1, by decide +kernel⟩
  | 2, h => cases h; exact ⟨tyX2, tyX2_ok, nmX2, xin_good xin2, by decide +kernel⟩
  | 3, h => cases h; exact ⟨tyX3, tyX3_ok, nmX3, xin_good xin3, by decide +kernel⟩
  | 4, h => cases h; exact ⟨tyX4, tyX4_ok, nmX4, xin_good xin4, by decide +kernel⟩
  | 5, h => cases h; exact ⟨tyX5, tyX5_ok, nmX5, xin_good xin5, by decide +kernel⟩
  | 6, h => cases h; exact ⟨tyX6, tyX6_ok, nmX6, xin_good xin6, by decide +kernel⟩
  | 7, h => cases h; exact ⟨tyX7, tyX7_ok, nmX7, xin_good xin7, by decide +kernel⟩
  | 8, h => cases h; exact ⟨tyX8, tyX8_ok, nmX8, xin_good xin8, by decide +kernel⟩
  | 9, h => cases h; exact ⟨tyX9, tyX9_ok, nmX9, xin_good xin9, by decide +kernel⟩
  | 10, h => cases h; exact ⟨tyX10, tyX10_ok, nmX10, xin_good xin10, by decide +kernel⟩
  | 11, h => cases h; exact ⟨tyX11, tyX11_ok, nmX11, xin_good xin11, by decide +kernel⟩
  | k + 12, h => simp [vwCl] at h
/-! the abstract cells under a store -/
theorem xe_obj {t : Nat → ClassId} {b B : Nat} {S : xS} {a ci N : Nat} (h : S.1[a]? = some (.inl ci, N)) : xe t b B S a = .inr (ci, (List.range N).map (fun j => xcv b B (xav S ci a j))) := by
  simp only [xe, List.getD_eq_getElem?_getD, h, Option.getD_some]
theorem xe_0 {t : Nat → ClassId} {b B : Nat} {S : xS} {a n : Nat} (h : S.1[a]? = some (.inr 0, n)) : xe t b B S a = .inl (t 0, n, .inl (S.2.1 a)) := by
  simp only [xe, List.getD_eq_getElem?_getD, h, Option.getD_some]
theorem xe_1 {t : Nat → ClassId} {b B : Nat} {S : xS} {a n : Nat} (h : S.1[a]? = some (.inr 1, n)) : xe t b B S a = .inl (t 1, n, .inl (S.2.1 a)) := by
  simp only [xe, List.getD_eq_getElem?_getD, h, Option.getD_some]
theorem xe_2 {t : Nat → ClassId} {b B : Nat} {S : xS} {a n : Nat} (h : S.1[a]? = some (.inr 2, n)) : xe t b B S a = .inl (t 2, n, .inl (S.2.1 a)) := by
  simp only [xe, List.getD_eq_getElem?_getD, h, Option.getD_some]
theorem xe_3 {t : Nat → ClassId} {b B : Nat} {S : xS} {a n : Nat} (h : S.1[a]? = some (.inr 3, n)) : xe t b B S a = .inl (t 3, n, .inr (.inl (S.2.2.1 a))) := by
  simp only [xe, List.getD_eq_getElem?_getD, h, Option.getD_some]
theorem xe_4 {t : Nat → ClassId} {b B : Nat} {S : xS} {a n : Nat} (h : S.1[a]? = some (.inr 4, n)) : xe t b B S a = .inl (t 4, n, .inr (.inr (.inr (.inr (fun j => xro B (S.2.2.2 a j)))))) := by
  simp only [xe, List.getD_eq_getElem?_getD, h, Option.getD_some]
/-- S' is S but for what lies at (a, k) -/
def xBut (S S' : xS) (a k : Nat) : Prop := S'.1 = S.1 ∧ ∀ a' j, ¬ (a' = a ∧ j = k) → S'.2.1 a' j = S.2.1 a' j ∧ S'.2.2.1 a' j = S.2.2.1 a' j ∧ S'.2.2.2 a' j = S.2.2.2 a' j
theorem xBut_pI (S : xS) (a k : Nat) (v : Int32) : xBut S (pI S a k v) a k := ⟨rfl, fun a' j h => ⟨by simp [pI, xu, h], rfl, rfl⟩⟩
theorem xBut_pJ (S : xS) (a k : Nat) (v : Int64) : xBut S (pJ S a k v) a k := ⟨rfl, fun a' j h => ⟨rfl, by simp [pJ, xu, h], rfl⟩⟩
theorem xBut_pP (S : xS) (a k : Nat) (v : Nat) : xBut S (pP S a k v) a k := ⟨rfl, fun a' j h => ⟨rfl, rfl, by simp [pP, xu, h]⟩⟩
theorem xBut.ne {S S' : xS} {a k : Nat} (h : xBut S S' a k) (t : Nat → ClassId) (b B : Nat) {a' : Nat} (ha : a' ≠ a) : xe t b B S' a' = xe t b B S a' := by
  obtain ⟨h1, h2⟩ := h
  have e1 : S'.2.1 a' = S.2.1 a' := by funext j; exact (h2 a' j (fun q => ha q.1)).1
  have e2 : S'.2.2.1 a' = S.2.2.1 a' := by funext j; exact (h2 a' j (fun q => ha q.1)).2.1
  have e3 : S'.2.2.2 a' = S.2.2.2 a' := by funext j; exact (h2 a' j (fun q => ha q.1)).2.2
  have e4 : ∀ ci j, xav S' ci a' j = xav S ci a' j := by
    intro ci j
    simp only [xav, gI, gJ, gP, e1, e2, e3]
  simp only [xe, h1, e1, e2, e3, e4]
theorem xBut.obj {S S' : xS} {a k : Nat} (h : xBut S S' a k) (t : Nat → ClassId) (b B : Nat) {ci N : Nat} (hs : S.1[a]? = some (.inl ci, N)) : Sum.inr (ci, ((List.range N).map (fun j => xcv b B (xav S ci a j))).set k (xcv b B (xav S' ci a k))) = xe t b B S' a := by
  rw [xe_obj (S := S') (by rw [h.1]; exact hs)]
  congr 2
  apply List.ext_getElem?
  intro j
  rw [List.getElem?_set]
  by_cases hkj : k = j
  · subst hkj
    simp only [if_pos, List.length_map, List.length_range]
    by_cases hl : k < N
    · simp [hl]
    · simp [hl]
  · rw [if_neg hkj]
    by_cases hl : j < N
    · simp only [List.getElem?_map, List.getElem?_range hl, Option.map_some]
      have q := h.2 a j (fun z => hkj z.2.symm)
      have : xav S ci a j = xav S' ci a j := by simp only [xav, gI, gJ, gP, q.1, q.2.1, q.2.2]
      rw [this]
    · simp [hl]
theorem xBut.w {S S' : xS} {a k : Nat} (h : xBut S S' a k) {t : Nat → ClassId} {b B : Nat} {e : va_E} (he : e = xe t b B S' a) : (xws t b B S).set a (B + a, e) = xws t b B S' := xws_set h.1 he (fun _ _ hne => h.ne t b B hne)
/-! what holds at every state behind the start -/
def xC (s0 : State) (a0 : Array Value) (D : va_G) (t : Nat → ClassId) : Prop := (∀ w ∈ lw_tbl, w.before a0 s0 = true) ∧ va_K D vwCl (xtys t) s0
theorem xC.w {s0 : State} {a0 : Array Value} {D : va_G} {t : Nat → ClassId} (h : xC s0 a0 D t) {s : State} (hW : s0.WarmedH s.vm) {args : Array Value} : ∀ w ∈ xgw, w.before args s = true := fun w hw => word_at hW (good_of_word (List.mem_filter.mp hw).2) (h.1 w (List.mem_filter.mp hw).1)
theorem xC.k {s0 : State} {a0 : Array Value} {D : va_G} {t : Nat → ClassId} (h : xC s0 a0 D t) {s : State} (hW : s0.WarmedH s.vm) : va_K D vwCl (xtys t) s := va_K.moved hW.alike h.2
def xMx (p : Program) (s : State) (m : MethodId) (meth : Method) (c : Code) (s0 : State) (y : MethodName) (cc : ByteArray) (nL : Nat) (ret : Option FieldType) : Prop :=
  p.tables.exec = Jvm.exec ∧ c.code = cc ∧ c.maxLocals = nL ∧ meth.sig.returnType = ret ∧ meth.locks = false ∧ s.vm.findClass y.cls = some m.cls ∧ meth.name = y.name ∧ s0.WarmedH s.vm
def xrm (e k n : Nat) : Room := { frames := e, cells := k, slots := n, locals := 80 * e }
/-- a callee keeps what the abstract machine says of it -/
def xM (l : Launch) (s0 : State) (D : va_G) (t : Nat → ClassId) (b : Nat) (ex : Bool) (d : Nat) : xCl := fun y vs S r S' =>
  ∃ (cc : ByteArray) (nL : Nat) (ret : Option FieldType), Cond.code y cc nL ret ∈ xgw ∧ nL ≤ 40 ∧ (r = none → ret = none) ∧ Met l y [Cond.code y cc nL ret] (xrm d (S'.1.length - S.1.length) (xus S' - xus S))
    (va_Pc (vs.map (xcv b s0.heap.size)) (fun U => s0.WarmedH U.vm ∧ xH s0 D t b S U.heap ∧ (ex = true → U.heap.size = s0.heap.size + S.1.length)))
    (fun _ _ oc u => oc = .returned (r.map (xcv b s0.heap.size)) ∧ xH s0 D t b S' u.heap) (S'.1.length - S.1.length) (xus S' - xus S) (fun q => s0.heap.size ≤ q)
section XW
variable {p : Program} {l : Launch} {e : Env} {R : Room} {s : State} {m : MethodId} {args : Array Value} {below : List Frame} {meth : Method} {c : Code} {H : Heap} {locs : List Loc} {cells slots : Nat} {Q : State → Prop}
/-- the machine comes to Q from this abstract state -/
def xG (p : Program) (l : Launch) (e : Env) (R : Room) (s : State) (m : MethodId) (args : Array Value) (below : List Frame) (meth : Method) (c : Code) (Q : State → Prop) (s0 : State) (D : va_G) (t : Nat → ClassId) (b nL cells slots pc : Nat) (ls : List (Option Value)) (st : List Value) (S : xS) : Prop :=
  ∀ (H : Heap) (locs : List Loc) (lr : Array Slot), xL b s0.heap.size ls lr nL → xH s0 D t b S H → (∀ q ∈ locs, s0.heap.size ≤ q.base) → W p l e R s m args below meth c H locs cells slots Q (F0 m pc lr (st.map (xcv b s0.heap.size)))
theorem x_size {g : JFrame} (h : H.size ≤ s.heap.size + cells → W p l e R s m args below meth c H locs cells slots Q g) : W p l e R s m args below meth c H locs cells slots Q g := fun T hT X => h (by rw [← hT]; exact X.heapSize) T hT X
theorem x_go {s0 : State} {D : va_G} {t : Nat → ClassId} {b : Nat} {S' : xS} {mc ms pc : Nat} {lr : Array Slot} {st0 rest : List Value} {Qa : State → Outcome → State → Prop} {free : Addr → Prop} {r : Option Value}
    (hr : va_Run p l e R s m args below meth c H locs cells slots mc ms (F0 m pc lr st0) rest Qa free) (hQ : ∀ st oc u, Qa st oc u → oc = .returned r ∧ xH s0 D t b S' u.heap) (hfree : ∀ q, free q → s0.heap.size ≤ q) (hl : ∀ q ∈ locs, s0.heap.size ≤ q.base)
    (kk : ∀ (H1 : Heap) (locs1 : List Loc), xH s0 D t b S' H1 → (∀ q ∈ locs1, s0.heap.size ≤ q.base) → W p l e R s m args below meth c H1 locs1 (cells + mc) (slots + ms) Q (F0 m (pc + 3) lr (r.toList ++ rest))) : W p l e R s m args below meth c H locs cells slots Q (F0 m pc lr st0) := by
  intro T hT X
  obtain ⟨v, st₀, u, T', L, h0, X', hL, e1, e2, hq, st⟩ := hr T hT X
  obtain ⟨hv, hx⟩ := hQ _ _ _ hq
  have hv : v = r := Outcome.returned.inj hv
  subst hv
  obtain ⟨t2, a1, b1⟩ := kk T'.heap (locs ++ L) (by rw [e1]; exact hx) (fun q hq => by
    rcases List.mem_append.mp hq with h | h
    · exact hl q h
    · exact hfree _ (hL q h)) T' rfl X'
  exact ⟨t2, st t2 a1, b1⟩
end XW
