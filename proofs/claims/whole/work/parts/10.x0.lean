/-! The abstract machine: a heap of numbered cells, contents by type, a frame, one step of bytecode. Proved against the machine once (parts 11, 12); contracts are then proved over it alone. -/
abbrev vwCl : List vw_C := [(RX0, TX0, 16), (RX1, TX1, 7), (RX2, TX2, 7), (RX3, TX3, 1), (RX4, TX4, 4), (RX5, TX5, 6), (RX6, TX6, 13), (RX7, TX7, 7), (RX8, TX8, 6), (RX9, TX9, 2), (RX10, TX10, 19), (RX11, TX11, 91)]
/-- a cell's kind: a class, or an array (0 int, 1 byte, 2 boolean, 3 long, 4 of references) -/
abbrev xK : Type := Nat ⊕ Nat
abbrev xS : Type := List (xK × Nat) × (Nat → Nat → Int32) × (Nat → Nat → Int64) × (Nat → Nat → Nat)
abbrev xF : Type := Nat × List (Option Value) × List Value
def gI (S : xS) (a k : Nat) : Int32 := S.2.1 a k
def gJ (S : xS) (a k : Nat) : Int64 := S.2.2.1 a k
def gP (S : xS) (a k : Nat) : Nat := S.2.2.2 a k
def xu {α : Type} (f : Nat → Nat → α) (a k : Nat) (v : α) : Nat → Nat → α := fun a' k' => if a' = a ∧ k' = k then v else f a' k'
def pI (S : xS) (a k : Nat) (v : Int32) : xS := (S.1, xu S.2.1 a k v, S.2.2.1, S.2.2.2)
def pJ (S : xS) (a k : Nat) (v : Int64) : xS := (S.1, S.2.1, xu S.2.2.1 a k v, S.2.2.2)
def pP (S : xS) (a k : Nat) (v : Nat) : xS := (S.1, S.2.1, S.2.2.1, xu S.2.2.2 a k v)
def pC (S : xS) (a0 sp a1 dp n : Nat) : xS := (S.1, fun a k => if a = a1 ∧ dp ≤ k ∧ k < dp + n then S.2.1 a0 (sp + (k - dp)) else S.2.1 a k, S.2.2.1, S.2.2.2)
def pN (S : xS) (c : xK) (n : Nat) : xS := (S.1 ++ [(c, n)], fun a k => if a = S.1.length then 0 else S.2.1 a k, fun a k => if a = S.1.length then 0 else S.2.2.1 a k, fun a k => if a = S.1.length then 0 else S.2.2.2 a k)
def xus (S : xS) : Nat := (S.1.map (fun q => q.2)).sum
/-- a reference by its code: 0 null, k + 1 the cell k -/
def xrv (n : Nat) : Value := match n with
  | 0 => .null
  | k + 1 => .ref k
def xro (B n : Nat) : Option Nat := match n with
  | 0 => none
  | k + 1 => some (B + k)
/-- an abstract value as the machine has it: cells lie from B on; the script at b -/
def xcv (b B : Nat) (v : Value) : Value := match v with
  | .ref a => .ref (B + a)
  | .retAddr _ => .ref b
  | v => v
def xftab : List (List Nat) := [[2, 2, 2, 2, 2, 2, 2, 2, 2, 2, 2, 2, 0, 0, 0, 0], [2, 2, 0, 0, 0, 0, 2], [2, 2, 2, 2, 2, 0, 0], [2], [2, 2, 0, 0], [2, 2, 2, 2, 0, 0], [2, 2, 2, 0, 2, 2, 2, 0, 2, 0, 0, 0, 0], [2, 2, 2, 2, 0, 0, 0], [2, 0, 0, 0, 0, 0], [2, 2], [2, 0, 0, 0, 2, 2, 2, 2, 2, 0, 2, 2, 0, 0, 2, 2, 2, 2, 2],
  [2, 0, 0, 2, 0, 0, 0, 0, 0, 0, 0, 0, 0, 0, 0, 0, 0, 0, 0, 0, 2, 2, 2, 2, 2, 2, 2, 2, 2, 2, 2, 2, 2, 2, 2, 2, 2, 2, 2, 2, 2, 2, 2, 2, 0, 0, 0, 0, 0, 0, 2, 2, 0, 2, 2, 2, 2, 2, 2, 2, 2, 2, 2, 2, 2, 2, 2, 2, 1, 0, 0, 0, 2, 2, 2, 2, 0, 0, 2, 2, 2, 2, 2, 0, 2, 0, 2, 2, 2, 0, 1]]
/-- a field's kind: 0 a number of 32 bits, 1 a long, 2 a reference -/
def xfk (ci k : Nat) : Nat := (xftab.getD ci []).getD k 0
def xav (S : xS) (ci a k : Nat) : Value := match xfk ci k with
  | 0 => .int (gI S a k)
  | 1 => .long (gJ S a k)
  | _ => xrv (gP S a k)
def xe (t : Nat → ClassId) (b B : Nat) (S : xS) (k : Nat) : va_E := match S.1.getD k (.inr 4, 0) with
  | (.inl ci, n) => .inr (ci, (List.range n).map (fun j => xcv b B (xav S ci k j)))
  | (.inr 0, n) => .inl (t 0, n, .inl (S.2.1 k))
  | (.inr 1, n) => .inl (t 1, n, .inl (S.2.1 k))
  | (.inr 2, n) => .inl (t 2, n, .inl (S.2.1 k))
  | (.inr 3, n) => .inl (t 3, n, .inr (.inl (S.2.2.1 k)))
  | (.inr _, n) => .inl (t 4, n, .inr (.inr (.inr (.inr (fun j => xro B (S.2.2.2 k j))))))
def xws (t : Nat → ClassId) (b B : Nat) (S : xS) : va_W := (List.range S.1.length).map (fun k => (B + k, xe t b B S k))
def xtys (t : Nat → ClassId) : List (ClassId × FieldType) := [(t 0, .int), (t 1, .byte), (t 2, .boolean), (t 3, .long), (t 4, .object RX0)]
theorem xrf_rv (b B n : Nat) : va_rf (xro B n) = xcv b B (xrv n) := by cases n <;> rfl
theorem xcv_cat (b B : Nat) (v : Value) : (xcv b B v).category = v.category := by cases v <;> rfl
theorem xcv_cats (b B : Nat) (st : List Value) : ((st.map (xcv b B)).map fun v => v.category).sum = (st.map fun v => v.category).sum := by
  rw [List.map_map]
  congr 1
  exact List.map_congr_left (fun v _ => xcv_cat b B v)
theorem xws_len (t : Nat → ClassId) (b B : Nat) (S : xS) : (xws t b B S).length = S.1.length := by simp [xws]
theorem xws_get (t : Nat → ClassId) (b B : Nat) (S : xS) {k : Nat} (h : k < S.1.length) : (xws t b B S)[k]? = some (B + k, xe t b B S k) := by
  simp [xws, h]
theorem xws_inv {t : Nat → ClassId} {b B : Nat} {S : xS} {k : Nat} {q : Nat × va_E} (h : (xws t b B S)[k]? = some q) : k < S.1.length ∧ q = (B + k, xe t b B S k) := by
  have hl : k < S.1.length := by
    have := (List.getElem?_eq_some_iff.mp h).1
    rw [xws_len] at this
    exact this
  rw [xws_get t b B S hl] at h
  exact ⟨hl, (Option.some.inj h).symm⟩
theorem xws_D (t : Nat → ClassId) (b B : Nat) (S : xS) : va_D (fun q : Nat => B ≤ q) (xws t b B S) := by
  refine ⟨fun i j p q hi hj h => ?_, fun k q hk => ?_⟩
  · obtain ⟨-, rfl⟩ := xws_inv hi
    obtain ⟨-, rfl⟩ := xws_inv hj
    exact Nat.add_left_cancel h
  · obtain ⟨-, rfl⟩ := xws_inv hk
    exact Nat.le_add_right _ _
theorem xws_set {t : Nat → ClassId} {b B : Nat} {S S' : xS} {a : Nat} {e : va_E} (hs : S'.1 = S.1) (ha : e = xe t b B S' a) (ho : ∀ k, k < S.1.length → k ≠ a → xe t b B S' k = xe t b B S k) : (xws t b B S).set a (B + a, e) = xws t b B S' := by
  apply List.ext_getElem?
  intro k
  rw [List.getElem?_set]
  by_cases hka : a = k
  · subst hka
    rw [if_pos rfl, xws_len]
    by_cases hl : a < S.1.length
    · rw [if_pos hl, xws_get t b B S' (by rw [hs]; exact hl), ha]
    · rw [if_neg hl, List.getElem?_eq_none (by rw [xws_len, hs]; omega)]
  · rw [if_neg hka]
    by_cases hl : k < S.1.length
    · rw [xws_get t b B S hl, xws_get t b B S' (by rw [hs]; exact hl), ho k hl (Ne.symm hka)]
    · rw [List.getElem?_eq_none (by rw [xws_len]; omega), List.getElem?_eq_none (by rw [xws_len, hs]; omega)]
theorem xws_push {t : Nat → ClassId} {b B : Nat} {S : xS} (c : xK) (n : Nat) : xws t b B (pN S c n) = xws t b B S ++ [(B + S.1.length, xe t b B (pN S c n) S.1.length)] := by
  have hl : (pN S c n).1.length = S.1.length + 1 := by simp [pN]
  unfold xws
  rw [hl, List.range_succ, List.map_append]
  congr 1
  apply List.map_congr_left
  intro k hk
  have hk := List.mem_range.mp hk
  have hne : k ≠ S.1.length := Nat.ne_of_lt hk
  have hg : (pN S c n).1.getD k (.inr 4, 0) = S.1.getD k (.inr 4, 0) := by
    simp only [pN, List.getD_eq_getElem?_getD]
    rw [List.getElem?_append_left hk]
  have e1 : (pN S c n).2.1 k = S.2.1 k := by funext j; simp [pN, hne]
  have e2 : (pN S c n).2.2.1 k = S.2.2.1 k := by funext j; simp [pN, hne]
  have e3 : (pN S c n).2.2.2 k = S.2.2.2 k := by funext j; simp [pN, hne]
  have e4 : ∀ ci j, xav (pN S c n) ci k j = xav S ci k j := by
    intro ci j
    simp only [xav, gI, gJ, gP, e1, e2, e3]
  simp only [xe, hg, e1, e2, e3, e4]
/-- what the heap holds, when the start's was s0's: the old cells as they were, the abstract cells from there on -/
def xH (s0 : State) (D : va_G) (t : Nat → ClassId) (b : Nat) (S : xS) (H : Heap) : Prop :=
  va_P D vwCl (xws t b s0.heap.size S) H ∧ va_S (fun q : Nat => s0.heap.size ≤ q) s0.heap H []
theorem xH.S {s0 : State} {D : va_G} {t : Nat → ClassId} {b : Nat} {S : xS} {H : Heap} (h : xH s0 D t b S H) {locs : List Loc} (hl : ∀ q ∈ locs, s0.heap.size ≤ q.base) : va_S (fun q : Nat => s0.heap.size ≤ q) s0.heap H locs := ⟨h.2.1, h.2.2.1, hl⟩
theorem xH.of {s0 : State} {D : va_G} {t : Nat → ClassId} {b : Nat} {S : xS} {H : Heap} {locs : List Loc} (h : va_P D vwCl (xws t b s0.heap.size S) H) (hS : va_S (fun q : Nat => s0.heap.size ≤ q) s0.heap H locs) : xH s0 D t b S H := ⟨h, hS.1, hS.2.1, fun _ h => by cases h⟩
theorem xH.size {s0 : State} {D : va_G} {t : Nat → ClassId} {b : Nat} {S : xS} {H : Heap} (h : xH s0 D t b S H) : s0.heap.size + S.1.length ≤ H.size := by
  cases hl : S.1.length with
  | zero => exact h.2.1
  | succ k =>
    have := (h.1 k _ (xws_get t b s0.heap.size S (by omega))).lt
    dsimp only at this
    omega
/-- the locals by a list -/
def xlv (b B : Nat) (ls : List (Option Value)) : List (Nat × Value) := (List.range ls.length).filterMap (fun i => match ls.getD i none with
  | some v => some (i, xcv b B v)
  | none => none)
theorem xlv_mem {b B : Nat} {ls : List (Option Value)} {i : Nat} {w : Value} : (i, w) ∈ xlv b B ls ↔ ∃ v, ls[i]? = some (some v) ∧ w = xcv b B v := by
  unfold xlv
  rw [List.mem_filterMap]
  constructor
  · rintro ⟨j, hj, h⟩
    have hj := List.mem_range.mp hj
    rw [List.getD_eq_getElem?_getD, List.getElem?_eq_getElem hj, Option.getD_some] at h
    cases hv : ls[j] with
    | none => rw [hv] at h; cases h
    | some v =>
      rw [hv] at h
      cases h
      exact ⟨v, by rw [List.getElem?_eq_getElem hj, hv], rfl⟩
  · rintro ⟨v, hv, rfl⟩
    have hi := (List.getElem?_eq_some_iff.mp hv).1
    refine ⟨i, List.mem_range.mpr hi, ?_⟩
    rw [List.getD_eq_getElem?_getD, hv]
    rfl
def xL (b B : Nat) (ls : List (Option Value)) (lr : Array Slot) (nL : Nat) : Prop := lv_has lr nL (xlv b B ls) ∧ ls.length = nL
theorem xL.at {b B : Nat} {ls : List (Option Value)} {lr : Array Slot} {nL i : Nat} {v : Value} (h : xL b B ls lr nL) (hv : ls[i]? = some (some v)) : lr[i]? = some (.val (xcv b B v)) := h.1.2.2 (i, xcv b B v) (xlv_mem.mpr ⟨v, hv, rfl⟩)
/-- a store in the locals: a long that the place was the second half of is gone -/
def xclr (ls : List (Option Value)) (i : Nat) : List (Option Value) := match i with
  | 0 => ls
  | k + 1 => match ls.getD k none with
    | some v => if v.category = 2 then ls.set k none else ls
    | none => ls
def xset (ls : List (Option Value)) (i : Nat) (v : Value) : List (Option Value) := (xclr ls i).set i (some v)
def xset2 (ls : List (Option Value)) (i : Nat) (v : Value) : List (Option Value) := ((xclr ls i).set i (some v)).set (i + 1) none
theorem xclr_len (ls : List (Option Value)) (i : Nat) : (xclr ls i).length = ls.length := by
  unfold xclr
  split
  · rfl
  · split
    · split <;> simp
    · rfl
theorem xclr_get {ls : List (Option Value)} {i j : Nat} {v : Value} (h : (xclr ls i)[j]? = some (some v)) : ls[j]? = some (some v) ∧ ¬ (j + 1 = i ∧ v.category = 2) := by
  unfold xclr at h
  split at h
  · exact ⟨h, fun q => by omega⟩
  · rename_i k
    split at h
    · rename_i x hx
      split at h
      · rw [List.getElem?_set] at h
        by_cases hjk : k = j
        · subst hjk
          rw [if_pos rfl] at h
          split at h
          · cases h
          · cases h
        · rw [if_neg hjk] at h
          exact ⟨h, fun q => hjk (by omega)⟩
      · rename_i hc
        refine ⟨h, fun ⟨q, hv⟩ => ?_⟩
        have hjk : j = k := by omega
        subst hjk
        rw [List.getD_eq_getElem?_getD, h] at hx
        cases hx
        exact hc hv
    · rename_i hx
      refine ⟨h, fun ⟨q, hv⟩ => ?_⟩
      have hjk : j = k := by omega
      subst hjk
      rw [List.getD_eq_getElem?_getD, h] at hx
      cases hx
theorem xL.set1 {b B : Nat} {ls : List (Option Value)} {i : Nat} {v : Value} {lr lr' : Array Slot} {nL : Nat} (hl : xL b B ls lr nL) (hi : i < nL) (h' : lv_has lr' nL ((i, xcv b B v) :: (xlv b B ls).filter (fun q => !(q.1 == i) && !(q.1 + 1 == i && q.2.category == 2)))) : xL b B (xset ls i v) lr' nL := by
  obtain ⟨h1, h2⟩ := hl
  refine ⟨⟨h'.1, h'.2.1, fun q hq => ?_⟩, by simp [xset, xclr_len, h2]⟩
  obtain ⟨j, u⟩ := q
  obtain ⟨v', hv', rfl⟩ := xlv_mem.mp hq
  rw [xset, List.getElem?_set] at hv'
  by_cases hij : i = j
  · subst hij
    rw [if_pos rfl, xclr_len, h2, if_pos hi] at hv'
    cases hv'
    exact h'.2.2 _ List.mem_cons_self
  · rw [if_neg hij] at hv'
    obtain ⟨g1, g2⟩ := xclr_get hv'
    refine h'.2.2 _ (List.mem_cons_of_mem _ (List.mem_filter.mpr ⟨xlv_mem.mpr ⟨v', g1, rfl⟩, ?_⟩))
    rw [← xcv_cat b B v'] at g2
    simp only [Bool.and_eq_true, Bool.not_eq_true', beq_eq_false_iff_ne, Bool.and_eq_false_iff]
    refine ⟨Ne.symm hij, ?_⟩
    by_cases c1 : j + 1 = i
    · exact Or.inr (fun c2 => g2 ⟨c1, c2⟩)
    · exact Or.inl c1
theorem xL.set2 {b B : Nat} {ls : List (Option Value)} {i : Nat} {v : Value} {lr lr' : Array Slot} {nL : Nat} (hl : xL b B ls lr nL) (hi : i + 1 < nL) (h' : lv_has lr' nL ((i, xcv b B v) :: (xlv b B ls).filter (fun q => !(q.1 == i) && (!(q.1 == i + 1) && !(q.1 + 1 == i && q.2.category == 2))))) : xL b B (xset2 ls i v) lr' nL := by
  obtain ⟨h1, h2⟩ := hl
  refine ⟨⟨h'.1, h'.2.1, fun q hq => ?_⟩, by simp [xset2, xclr_len, h2]⟩
  obtain ⟨j, u⟩ := q
  obtain ⟨v', hv', rfl⟩ := xlv_mem.mp hq
  rw [xset2, List.getElem?_set] at hv'
  by_cases hj1 : i + 1 = j
  · rw [if_pos hj1] at hv'
    split at hv' <;> cases hv'
  rw [if_neg hj1, List.getElem?_set] at hv'
  by_cases hij : i = j
  · subst hij
    rw [if_pos rfl, xclr_len, h2, if_pos (by omega)] at hv'
    cases hv'
    exact h'.2.2 _ List.mem_cons_self
  · rw [if_neg hij] at hv'
    obtain ⟨g1, g2⟩ := xclr_get hv'
    refine h'.2.2 _ (List.mem_cons_of_mem _ (List.mem_filter.mpr ⟨xlv_mem.mpr ⟨v', g1, rfl⟩, ?_⟩))
    rw [← xcv_cat b B v'] at g2
    simp only [Bool.and_eq_true, Bool.not_eq_true', beq_eq_false_iff_ne, Bool.and_eq_false_iff]
    refine ⟨Ne.symm hij, Ne.symm hj1, ?_⟩
    by_cases c1 : j + 1 = i
    · exact Or.inr (fun c2 => g2 ⟨c1, c2⟩)
    · exact Or.inl c1
/-! the words that hold at every warmer state -/
def xgw : List Cond := lw_tbl.filter goodWord
/-- a method's entry: its locals out of its arguments -/
def xent (vs : List Value) (n : Nat) : List (Option Value) := (vs.flatMap (fun v => if v.category = 2 then [some v, none] else [some v])) ++ List.replicate (n - (vs.flatMap (fun v => if v.category = 2 then [some v, none] else [some v])).length) none
/-! links: what an index of a class's pool names -/
def xFl (own : String) (idx ci k : Nat) (ty : FieldType) : Prop := ∃ (C : String) (T : u_T) (N : Nat), vwCl[ci]? = some (C, T, N) ∧ k < N ∧ Cond.fieldLink own idx (T k).1 (T k).2.1 (T k).2.2.1 ∈ xgw ∧ parseFieldDescriptor (T k).2.2.1 = some ty
def xFin (y : MethodName) (ci k : Nat) : Prop := ∃ (C : String) (T : u_T) (N : Nat), vwCl[ci]? = some (C, T, N) ∧ ((T k).2.2.2 = false ∨ ((T k).2.2.2 = true ∧ y.name = "<init>" ∧ (T k).1 = y.cls))
def xMb (y2 : MethodName) (n : Nat) : Prop := Cond.initialized y2.cls ∈ xgw ∧ (y2.cls ≠ "java/lang/invoke/MethodHandle" ∧ y2.cls ≠ "java/lang/invoke/VarHandle" ∧ (parseMethodDescriptor y2.desc).map (fun d => d.parameters.length) = some n)
def xMl (own : String) (idx : Nat) (y2 : MethodName) : Prop := Cond.methodLink own idx y2 ∈ xgw ∨ ∃ host, Cond.methodLinkNest own idx y2 host ∈ lw_tbl
def xVl (own : String) (idx : Nat) (y2 : MethodName) (n ci : Nat) : Prop := Cond.methodLink own idx y2 ∈ xgw ∧ Cond.instanceMethod y2 ∈ xgw ∧ Cond.selects y2.cls y2 y2 ∈ xgw ∧ xMb y2 n ∧ ∃ (T : u_T) (N : Nat), vwCl[ci]? = some (y2.cls, T, N)
def xSl (own : String) (idx : Nat) (y2 : MethodName) (n : Nat) : Prop := xMl own idx y2 ∧ Cond.static y2 ∈ xgw ∧ xMb y2 n
def xIl (own : String) (idx : Nat) (y2 : MethodName) (n : Nat) : Prop := xMl own idx y2 ∧ Cond.instanceMethod y2 ∈ xgw ∧ y2.name = "<init>" ∧ xMb y2 n
def xNl (own : String) (idx ci N : Nat) : Prop := ∃ (C : String) (T : u_T), vwCl[ci]? = some (C, T, N) ∧ Cond.classLink own idx C ∈ xgw ∧ Cond.instantiable C N ∈ xgw ∧ Cond.initialized C ∈ xgw
def xtg (pc : Nat) (off : Int) (tgt : Nat) : Prop := (pc : Int) + off = (tgt : Int)
def xcond (c : ClassFile.Cond) (x y : Int32) : Prop := match c with
  | .eq => x = y
  | .ne => ¬ x = y
  | .lt => x < y
  | .ge => y ≤ x
  | .gt => y < x
  | .le => x ≤ y
