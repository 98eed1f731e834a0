/-! a run that makes no cell needs no cells but those that it can reach: the same run over fewer cells -/
def vOk (n : Nat) (v : Value) : Prop := ∀ a, v = .ref a → a < n
def sOk (n : Nat) (st : List Value) : Prop := ∀ v ∈ st, vOk n v
def lOk (n : Nat) (ls : List (Option Value)) : Prop := ∀ v, some v ∈ ls → vOk n v
def rOk (n : Nat) (S : xS) : Prop := ∀ a, a < n → ∀ k, S.2.2.2 a k ≤ n
def rs (n : Nat) (S : xS) : xS := (S.1.take n, S.2)
theorem vOk.i {n : Nat} (x : Int32) : vOk n (.int x) := fun _ h => by cases h
theorem vOk.l {n : Nat} (x : Int64) : vOk n (.long x) := fun _ h => by cases h
theorem vOk.r {n q : Nat} (h : q < n) : vOk n (.ref q) := fun _ e => by cases e; exact h
theorem vOk.p {n q : Nat} (h : q ≤ n) : vOk n (xrv q) := by
  cases q with
  | zero => exact fun _ e => by cases e
  | succ q => exact fun _ e => by cases e; exact h
theorem sOk.c {n : Nat} {v : Value} {st : List Value} (h : vOk n v) (g : sOk n st) : sOk n (v :: st) := fun u hu => by
  rcases List.mem_cons.mp hu with rfl | hu
  · exact h
  · exact g u hu
theorem sOk.g {n : Nat} {st : List Value} {v : Value} (g : sOk n st) (h : vOk n v) : sOk n (v :: st) := sOk.c h g
theorem sOk.t {n : Nat} {v : Value} {st : List Value} (g : sOk n (v :: st)) : sOk n st := fun u hu => g u (List.mem_cons_of_mem _ hu)
theorem sOk.h {n : Nat} {v : Value} {st : List Value} (g : sOk n (v :: st)) : vOk n v := g v List.mem_cons_self
theorem sOk.n {n : Nat} : sOk n [] := fun _ h => by cases h
theorem sOk.a {n : Nat} {s t : List Value} (g : sOk n (s ++ t)) : sOk n s ∧ sOk n t := ⟨fun u hu => g u (List.mem_append_left _ hu), fun u hu => g u (List.mem_append_right _ hu)⟩
theorem sOk.rv {n : Nat} {s : List Value} (g : sOk n s.reverse) : sOk n s := fun u hu => g u (List.mem_reverse.mpr hu)
theorem lOk.at {n : Nat} {ls : List (Option Value)} (h : lOk n ls) {k : Nat} {v : Value} (e : ls[k]? = some (some v)) : vOk n v := h v (List.mem_of_getElem? e)
theorem lOk.s0 {n : Nat} {ls : List (Option Value)} (h : lOk n ls) (k : Nat) {o : Option Value} (ho : ∀ v, o = some v → vOk n v) : lOk n (ls.set k o) := fun u hu => by
  rcases List.mem_or_eq_of_mem_set hu with z | z
  · exact h u z
  · exact ho u z.symm
theorem lOk.clr {n : Nat} {ls : List (Option Value)} (h : lOk n ls) (k : Nat) : lOk n (xclr ls k) := by
  unfold xclr
  split
  · exact h
  · split
    · split
      · exact h.s0 _ (fun _ e => by cases e)
      · exact h
    · exact h
theorem lOk.set {n : Nat} {ls : List (Option Value)} (h : lOk n ls) (k : Nat) {v : Value} (hv : vOk n v) : lOk n (xset ls k v) := (h.clr k).s0 _ (fun _ e => by cases e; exact hv)
theorem lOk.set2 {n : Nat} {ls : List (Option Value)} (h : lOk n ls) (k : Nat) {v : Value} (hv : vOk n v) : lOk n (xset2 ls k v) := ((h.clr k).s0 _ (fun _ e => by cases e; exact hv)).s0 _ (fun _ e => by cases e)
theorem rs_at {n : Nat} {S : xS} {a : Nat} {q : xK × Nat} (h : S.1[a]? = some q) (ha : a < n) : (rs n S).1[a]? = some q := by
  show (S.1.take n)[a]? = some q
  rw [List.getElem?_take_of_lt ha]; exact h
theorem rOk.pP {n : Nat} {S : xS} (h : rOk n S) (a k : Nat) {q : Nat} (hq : q ≤ n) : rOk n (pP S a k q) := fun a' ha k' => by
  show xu S.2.2.2 a k q a' k' ≤ n
  unfold xu
  split
  · exact hq
  · exact h a' ha k'
theorem rOk.e {n : Nat} {S S' : xS} (h : rOk n S) (e : S'.2.2.2 = S.2.2.2) : rOk n S' := fun a ha k => by rw [e]; exact h a ha k
set_option maxHeartbeats 4000000 in
theorem xSm_rs {n : Nat} {call call' : xCl} (hc : ∀ y vs S r S', call y vs S r S' → rOk n S → sOk n vs → call' y vs (rs n S) r (rs n S') ∧ rOk n S' ∧ ∀ v, r = some v → vOk n v) {y : MethodName} {pc len pc' : Nat} {ls ls' : List (Option Value)} {s0 s1 : List Value} {S S' : xS} {i : Instr} (h : xSm call false none y pc len ls s0 S pc' ls' s1 S' i) (h1 : sOk n s0) (h2 : lOk n ls) (h3 : rOk n S) :
    xSm call' true none y pc len ls s0 (rs n S) pc' ls' s1 (rs n S') i ∧ sOk n s1 ∧ lOk n ls' ∧ rOk n S' := by
  cases i with
  | iconst k => obtain ⟨rfl, ⟨rfl, rfl, rfl⟩, rfl⟩ := h; exact ⟨⟨rfl, ⟨rfl, rfl, rfl⟩, rfl⟩, h1.g (vOk.i _), h2, h3⟩
  | bipush k => obtain ⟨rfl, ⟨rfl, rfl, rfl⟩, rfl⟩ := h; exact ⟨⟨rfl, ⟨rfl, rfl, rfl⟩, rfl⟩, h1.g (vOk.i _), h2, h3⟩
  | sipush k => obtain ⟨rfl, ⟨rfl, rfl, rfl⟩, rfl⟩ := h; exact ⟨⟨rfl, ⟨rfl, rfl, rfl⟩, rfl⟩, h1.g (vOk.i _), h2, h3⟩
  | lconst k => obtain ⟨rfl, ⟨rfl, rfl, rfl⟩, rfl⟩ := h; exact ⟨⟨rfl, ⟨rfl, rfl, rfl⟩, rfl⟩, h1.g (vOk.l _), h2, h3⟩
  | ldc k => obtain ⟨rfl, ⟨rfl, rfl, rfl⟩, v, hv, rfl⟩ := h; exact ⟨⟨rfl, ⟨rfl, rfl, rfl⟩, v, hv, rfl⟩, h1.g (vOk.i _), h2, h3⟩
  | ldc_w k => obtain ⟨rfl, ⟨rfl, rfl, rfl⟩, v, hv, rfl⟩ := h; exact ⟨⟨rfl, ⟨rfl, rfl, rfl⟩, v, hv, rfl⟩, h1.g (vOk.i _), h2, h3⟩
  | ldc2_w k => obtain ⟨rfl, ⟨rfl, rfl, rfl⟩, v, hv, rfl⟩ := h; exact ⟨⟨rfl, ⟨rfl, rfl, rfl⟩, v, hv, rfl⟩, h1.g (vOk.l _), h2, h3⟩
  | iload k => obtain ⟨rfl, ⟨rfl, rfl, rfl⟩, v, hv, rfl⟩ := h; exact ⟨⟨rfl, ⟨rfl, rfl, rfl⟩, v, hv, rfl⟩, h1.g (vOk.i _), h2, h3⟩
  | iload_n k => obtain ⟨rfl, ⟨rfl, rfl, rfl⟩, v, hv, rfl⟩ := h; exact ⟨⟨rfl, ⟨rfl, rfl, rfl⟩, v, hv, rfl⟩, h1.g (vOk.i _), h2, h3⟩
  | lload k => obtain ⟨rfl, ⟨rfl, rfl, rfl⟩, v, hv, rfl⟩ := h; exact ⟨⟨rfl, ⟨rfl, rfl, rfl⟩, v, hv, rfl⟩, h1.g (vOk.l _), h2, h3⟩
  | lload_n k => obtain ⟨rfl, ⟨rfl, rfl, rfl⟩, v, hv, rfl⟩ := h; exact ⟨⟨rfl, ⟨rfl, rfl, rfl⟩, v, hv, rfl⟩, h1.g (vOk.l _), h2, h3⟩
  | aload k => obtain ⟨rfl, ⟨rfl, rfl, rfl⟩, v, ha, hv, rfl⟩ := h; exact ⟨⟨rfl, ⟨rfl, rfl, rfl⟩, v, ha, hv, rfl⟩, h1.g (h2.at hv), h2, h3⟩
  | aload_n k => obtain ⟨rfl, ⟨rfl, rfl, rfl⟩, v, ha, hv, rfl⟩ := h; exact ⟨⟨rfl, ⟨rfl, rfl, rfl⟩, v, ha, hv, rfl⟩, h1.g (h2.at hv), h2, h3⟩
  | istore k => obtain ⟨rfl, rfl, rfl, hk, x, rfl, rfl⟩ := h; exact ⟨⟨rfl, rfl, rfl, hk, x, rfl, rfl⟩, h1.t, h2.set _ (vOk.i _), h3⟩
  | istore_n k => obtain ⟨rfl, rfl, rfl, hk, x, rfl, rfl⟩ := h; exact ⟨⟨rfl, rfl, rfl, hk, x, rfl, rfl⟩, h1.t, h2.set _ (vOk.i _), h3⟩
  | lstore k => obtain ⟨rfl, rfl, rfl, hk, x, rfl, rfl⟩ := h; exact ⟨⟨rfl, rfl, rfl, hk, x, rfl, rfl⟩, h1.t, h2.set2 _ (vOk.l _), h3⟩
  | lstore_n k => obtain ⟨rfl, rfl, rfl, hk, x, rfl, rfl⟩ := h; exact ⟨⟨rfl, rfl, rfl, hk, x, rfl, rfl⟩, h1.t, h2.set2 _ (vOk.l _), h3⟩
  | astore k => obtain ⟨rfl, rfl, rfl, hk, x, rfl, rfl⟩ := h; exact ⟨⟨rfl, rfl, rfl, hk, x, rfl, rfl⟩, h1.t, h2.set _ h1.h, h3⟩
  | astore_n k => obtain ⟨rfl, rfl, rfl, hk, x, rfl, rfl⟩ := h; exact ⟨⟨rfl, rfl, rfl, hk, x, rfl, rfl⟩, h1.t, h2.set _ h1.h, h3⟩
  | iinc k j => obtain ⟨rfl, rfl, rfl, rfl, x, hx, rfl⟩ := h; exact ⟨⟨rfl, rfl, rfl, rfl, x, hx, rfl⟩, h1, h2.set _ (vOk.i _), h3⟩
  | dup => obtain ⟨rfl, ⟨rfl, rfl, rfl⟩, v, r, hv, rfl, rfl⟩ := h; exact ⟨⟨rfl, ⟨rfl, rfl, rfl⟩, v, r, hv, rfl, rfl⟩, h1.g h1.h, h2, h3⟩
  | dup2 =>
    obtain ⟨rfl, ⟨rfl, rfl, rfl⟩, ⟨v, u, r, hv, hu, rfl, rfl⟩ | ⟨v, r, hv, rfl, rfl⟩⟩ := h
    · exact ⟨⟨rfl, ⟨rfl, rfl, rfl⟩, Or.inl ⟨v, u, r, hv, hu, rfl, rfl⟩⟩, (h1.g h1.t.h).g h1.h, h2, h3⟩
    · exact ⟨⟨rfl, ⟨rfl, rfl, rfl⟩, Or.inr ⟨v, r, hv, rfl, rfl⟩⟩, h1.g h1.h, h2, h3⟩
  | pop => obtain ⟨rfl, ⟨rfl, rfl, rfl⟩, v, hv, rfl⟩ := h; exact ⟨⟨rfl, ⟨rfl, rfl, rfl⟩, v, hv, rfl⟩, h1.t, h2, h3⟩
  | goto off => obtain ⟨rfl, rfl, rfl, rfl, ht⟩ := h; exact ⟨⟨rfl, rfl, rfl, rfl, ht⟩, h1, h2, h3⟩
  | ifCond c off => obtain ⟨rfl, rfl, rfl, x, rfl, ht⟩ := h; exact ⟨⟨rfl, rfl, rfl, x, rfl, ht⟩, h1.t, h2, h3⟩
  | if_icmp c off => obtain ⟨rfl, rfl, rfl, x, z, rfl, ht⟩ := h; exact ⟨⟨rfl, rfl, rfl, x, z, rfl, ht⟩, h1.t.t, h2, h3⟩
  | tableswitch d lo hi offs => obtain ⟨rfl, rfl, x, rfl, ht⟩ := h; exact ⟨⟨rfl, rfl, x, rfl, ht⟩, h1.t, h2, h3⟩
  | getfield idx =>
    obtain ⟨rfl, ⟨rfl, rfl, rfl⟩, ci, k, ty, N, a, r, hf, hs, hk, rfl, rfl⟩ := h
    have ha : a < n := h1.h a rfl
    refine ⟨⟨rfl, ⟨rfl, rfl, rfl⟩, ci, k, ty, N, a, r, hf, rs_at hs ha, hk, rfl, rfl⟩, h1.t.g ?_, h2, h3⟩
    unfold xav
    split
    · exact vOk.i _
    · exact vOk.l _
    · exact vOk.p (h3 a ha k)
  | putfield idx =>
    obtain ⟨rfl, rfl, rfl, ci, k, ty, N, a, v, hf, hfin, hs, hk, rfl, hp⟩ := h
    have ha : a < n := h1.t.h a rfl
    have hv : vOk n v := h1.h
    have go : xPv (rs n S) ci a k ty v (rs n S') ∧ rOk n S' := by
      cases v with
      | int x => obtain ⟨p1, p2, p3, rfl⟩ := hp; exact ⟨⟨p1, p2, p3, rfl⟩, h3.e rfl⟩
      | long x => obtain ⟨p1, p2, rfl⟩ := hp; exact ⟨⟨p1, p2, rfl⟩, h3.e rfl⟩
      | ref q => obtain ⟨p1, p2, rfl⟩ := hp; exact ⟨⟨p1, p2, rfl⟩, h3.pP a k (hv q rfl)⟩
      | null => obtain ⟨p1, p2, rfl⟩ := hp; exact ⟨⟨p1, p2, rfl⟩, h3.pP a k (Nat.zero_le _)⟩
      | _ => exact hp.elim
    exact ⟨⟨rfl, rfl, rfl, ci, k, ty, N, a, v, hf, hfin, rs_at hs ha, hk, rfl, go.1⟩, h1.t.t, h2, go.2⟩
  | iaload =>
    obtain ⟨rfl, ⟨rfl, rfl, rfl⟩, i, r, ⟨a, m, rfl, hs, hi, rfl⟩ | ⟨z, L, xs, hX, -⟩⟩ := h
    · exact ⟨⟨rfl, ⟨rfl, rfl, rfl⟩, i, r, Or.inl ⟨a, m, rfl, rs_at hs (h1.t.h a rfl), hi, rfl⟩⟩, h1.t.t.g (vOk.i _), h2, h3⟩
    · cases hX
  | baload => obtain ⟨rfl, ⟨rfl, rfl, rfl⟩, i, r, a, m, j, hj, rfl, hs, hi, rfl⟩ := h; exact ⟨⟨rfl, ⟨rfl, rfl, rfl⟩, i, r, a, m, j, hj, rfl, rs_at hs (h1.t.h a rfl), hi, rfl⟩, h1.t.t.g (vOk.i _), h2, h3⟩
  | laload => obtain ⟨rfl, ⟨rfl, rfl, rfl⟩, i, r, a, m, rfl, hs, hi, rfl⟩ := h; exact ⟨⟨rfl, ⟨rfl, rfl, rfl⟩, i, r, a, m, rfl, rs_at hs (h1.t.h a rfl), hi, rfl⟩, h1.t.t.g (vOk.l _), h2, h3⟩
  | aaload => obtain ⟨rfl, ⟨rfl, rfl, rfl⟩, i, r, a, m, rfl, hs, hi, rfl⟩ := h; exact ⟨⟨rfl, ⟨rfl, rfl, rfl⟩, i, r, a, m, rfl, rs_at hs (h1.t.h a rfl), hi, rfl⟩, h1.t.t.g (vOk.p (h3 a (h1.t.h a rfl) _)), h2, h3⟩
  | iastore => obtain ⟨rfl, rfl, rfl, x, i, a, m, rfl, hs, hi, rfl⟩ := h; exact ⟨⟨rfl, rfl, rfl, x, i, a, m, rfl, rs_at hs (h1.t.t.h a rfl), hi, rfl⟩, h1.t.t.t, h2, h3.e rfl⟩
  | bastore =>
    obtain ⟨rfl, rfl, rfl, x, i, a, m, rfl, hi, ⟨hs, rfl⟩ | ⟨hs, rfl⟩⟩ := h
    · exact ⟨⟨rfl, rfl, rfl, x, i, a, m, rfl, hi, Or.inl ⟨rs_at hs (h1.t.t.h a rfl), rfl⟩⟩, h1.t.t.t, h2, h3.e rfl⟩
    · exact ⟨⟨rfl, rfl, rfl, x, i, a, m, rfl, hi, Or.inr ⟨rs_at hs (h1.t.t.h a rfl), rfl⟩⟩, h1.t.t.t, h2, h3.e rfl⟩
  | lastore => obtain ⟨rfl, rfl, rfl, x, i, a, m, rfl, hs, hi, rfl⟩ := h; exact ⟨⟨rfl, rfl, rfl, x, i, a, m, rfl, rs_at hs (h1.t.t.h a rfl), hi, rfl⟩, h1.t.t.t, h2, h3.e rfl⟩
  | aastore => obtain ⟨rfl, rfl, rfl, q, i, a, m, N, rfl, hs, hq, hi, rfl⟩ := h; exact ⟨⟨rfl, rfl, rfl, q, i, a, m, N, rfl, rs_at hs (h1.t.t.h a rfl), rs_at hq (h1.h q rfl), hi, rfl⟩, h1.t.t.t, h2, h3.pP _ _ (h1.h q rfl)⟩
  | arraylength =>
    obtain ⟨rfl, ⟨rfl, rfl, rfl⟩, r, ⟨a, j, m, rfl, hs, rfl⟩ | ⟨z, L, xs, hX, -⟩⟩ := h
    · exact ⟨⟨rfl, ⟨rfl, rfl, rfl⟩, r, Or.inl ⟨a, j, m, rfl, rs_at hs (h1.h a rfl), rfl⟩⟩, h1.t.g (vOk.i _), h2, h3⟩
    · cases hX
  | new idx => obtain ⟨-, -, -, hex, -⟩ := h; cases hex
  | newarray t => obtain ⟨-, -, -, hex, -⟩ := h; cases hex
  | anewarray idx => obtain ⟨-, -, -, hex, -⟩ := h; cases hex
  | invokevirtual idx =>
    obtain ⟨rfl, rfl, rfl, y2, k, ci, vs, a, N, r, q, hl, hs, hn, rfl, hcat, hcl, rfl⟩ := h
    obtain ⟨g1, g2⟩ := h1.a
    obtain ⟨c1, c2, c3⟩ := hc _ _ _ _ _ hcl h3 (g1.rv.g g2.h)
    refine ⟨⟨rfl, rfl, rfl, y2, k, ci, vs, a, N, r, q, hl, rs_at hs (g2.h a rfl), hn, rfl, hcat, c1, rfl⟩, ?_, h2, c2⟩
    cases q with
    | none => exact g2.t
    | some v => exact g2.t.g (c3 v rfl)
  | invokestatic idx =>
    obtain ⟨rfl, rfl, rfl, ⟨y2, k, vs, r, q, hl, hn, rfl, hcat, hcl, rfl⟩ | ⟨hl, k, dp, sp, a0, a1, n0, n1, rfl, hs0, hs1, z1, z2, z3, z4, z5, hcat, rfl⟩ | ⟨rfl, hm⟩⟩ := h
    · obtain ⟨g1, g2⟩ := h1.a
      obtain ⟨c1, c2, c3⟩ := hc _ _ _ _ _ hcl h3 g1.rv
      refine ⟨⟨rfl, rfl, rfl, Or.inl ⟨y2, k, vs, r, q, hl, hn, rfl, hcat, c1, rfl⟩⟩, ?_, h2, c2⟩
      cases q with
      | none => exact g2
      | some v => exact g2.g (c3 v rfl)
    · exact ⟨⟨rfl, rfl, rfl, Or.inr (Or.inl ⟨hl, k, dp, sp, a0, a1, n0, n1, rfl, rs_at hs0 (h1.t.t.t.t.h a0 rfl), rs_at hs1 (h1.t.t.h a1 rfl), z1, z2, z3, z4, z5, hcat, rfl⟩)⟩, h1.t.t.t.t.t, h2, h3.e rfl⟩
    · refine ⟨⟨rfl, rfl, rfl, Or.inr (Or.inr ⟨rfl, hm⟩)⟩, ?_, h2, h3⟩
      rcases hm with ⟨-, x, z, r, rfl, rfl, -⟩ | ⟨-, x, z, r, rfl, rfl, -⟩ | ⟨-, x, r, rfl, rfl, -⟩
      · exact h1.t.t.g (vOk.i _)
      · exact h1.t.t.g (vOk.i _)
      · exact h1.t.g (vOk.l _)
  | invokespecial idx =>
    obtain ⟨rfl, rfl, rfl, ⟨y2, k, vs, a, r, hl, hn, rfl, hcat, hcl, rfl⟩ | ⟨hl, rfl, a, rfl, hcat⟩⟩ := h
    · obtain ⟨g1, g2⟩ := h1.a
      obtain ⟨c1, c2, c3⟩ := hc _ _ _ _ _ hcl h3 (g1.rv.g g2.h)
      exact ⟨⟨rfl, rfl, rfl, Or.inl ⟨y2, k, vs, a, s1, hl, hn, rfl, hcat, c1, rfl⟩⟩, g2.t, h2, c2⟩
    · exact ⟨⟨rfl, rfl, rfl, Or.inr ⟨hl, rfl, a, rfl, hcat⟩⟩, h1.t, h2, h3⟩
  | iadd => obtain ⟨rfl, ⟨rfl, rfl, rfl⟩, x, z, r, rfl, rfl⟩ := h; exact ⟨⟨rfl, ⟨rfl, rfl, rfl⟩, x, z, r, rfl, rfl⟩, h1.t.t.g (vOk.i _), h2, h3⟩
  | isub => obtain ⟨rfl, ⟨rfl, rfl, rfl⟩, x, z, r, rfl, rfl⟩ := h; exact ⟨⟨rfl, ⟨rfl, rfl, rfl⟩, x, z, r, rfl, rfl⟩, h1.t.t.g (vOk.i _), h2, h3⟩
  | imul => obtain ⟨rfl, ⟨rfl, rfl, rfl⟩, x, z, r, rfl, rfl⟩ := h; exact ⟨⟨rfl, ⟨rfl, rfl, rfl⟩, x, z, r, rfl, rfl⟩, h1.t.t.g (vOk.i _), h2, h3⟩
  | iand => obtain ⟨rfl, ⟨rfl, rfl, rfl⟩, x, z, r, rfl, rfl⟩ := h; exact ⟨⟨rfl, ⟨rfl, rfl, rfl⟩, x, z, r, rfl, rfl⟩, h1.t.t.g (vOk.i _), h2, h3⟩
  | ior => obtain ⟨rfl, ⟨rfl, rfl, rfl⟩, x, z, r, rfl, rfl⟩ := h; exact ⟨⟨rfl, ⟨rfl, rfl, rfl⟩, x, z, r, rfl, rfl⟩, h1.t.t.g (vOk.i _), h2, h3⟩
  | ixor => obtain ⟨rfl, ⟨rfl, rfl, rfl⟩, x, z, r, rfl, rfl⟩ := h; exact ⟨⟨rfl, ⟨rfl, rfl, rfl⟩, x, z, r, rfl, rfl⟩, h1.t.t.g (vOk.i _), h2, h3⟩
  | idiv => obtain ⟨rfl, ⟨rfl, rfl, rfl⟩, x, z, r, hz, rfl, rfl⟩ := h; exact ⟨⟨rfl, ⟨rfl, rfl, rfl⟩, x, z, r, hz, rfl, rfl⟩, h1.t.t.g (vOk.i _), h2, h3⟩
  | irem => obtain ⟨rfl, ⟨rfl, rfl, rfl⟩, x, z, r, hz, rfl, rfl⟩ := h; exact ⟨⟨rfl, ⟨rfl, rfl, rfl⟩, x, z, r, hz, rfl, rfl⟩, h1.t.t.g (vOk.i _), h2, h3⟩
  | ishl => obtain ⟨rfl, ⟨rfl, rfl, rfl⟩, x, z, r, rfl, rfl⟩ := h; exact ⟨⟨rfl, ⟨rfl, rfl, rfl⟩, x, z, r, rfl, rfl⟩, h1.t.t.g (vOk.i _), h2, h3⟩
  | ishr => obtain ⟨rfl, ⟨rfl, rfl, rfl⟩, x, z, r, rfl, rfl⟩ := h; exact ⟨⟨rfl, ⟨rfl, rfl, rfl⟩, x, z, r, rfl, rfl⟩, h1.t.t.g (vOk.i _), h2, h3⟩
  | iushr => obtain ⟨rfl, ⟨rfl, rfl, rfl⟩, x, z, r, rfl, rfl⟩ := h; exact ⟨⟨rfl, ⟨rfl, rfl, rfl⟩, x, z, r, rfl, rfl⟩, h1.t.t.g (vOk.i _), h2, h3⟩
  | ladd => obtain ⟨rfl, ⟨rfl, rfl, rfl⟩, x, z, r, rfl, rfl⟩ := h; exact ⟨⟨rfl, ⟨rfl, rfl, rfl⟩, x, z, r, rfl, rfl⟩, h1.t.t.g (vOk.l _), h2, h3⟩
  | lsub => obtain ⟨rfl, ⟨rfl, rfl, rfl⟩, x, z, r, rfl, rfl⟩ := h; exact ⟨⟨rfl, ⟨rfl, rfl, rfl⟩, x, z, r, rfl, rfl⟩, h1.t.t.g (vOk.l _), h2, h3⟩
  | lmul => obtain ⟨rfl, ⟨rfl, rfl, rfl⟩, x, z, r, rfl, rfl⟩ := h; exact ⟨⟨rfl, ⟨rfl, rfl, rfl⟩, x, z, r, rfl, rfl⟩, h1.t.t.g (vOk.l _), h2, h3⟩
  | land => obtain ⟨rfl, ⟨rfl, rfl, rfl⟩, x, z, r, rfl, rfl⟩ := h; exact ⟨⟨rfl, ⟨rfl, rfl, rfl⟩, x, z, r, rfl, rfl⟩, h1.t.t.g (vOk.l _), h2, h3⟩
  | ldiv => obtain ⟨rfl, ⟨rfl, rfl, rfl⟩, x, z, r, hz, rfl, rfl⟩ := h; exact ⟨⟨rfl, ⟨rfl, rfl, rfl⟩, x, z, r, hz, rfl, rfl⟩, h1.t.t.g (vOk.l _), h2, h3⟩
  | lrem => obtain ⟨rfl, ⟨rfl, rfl, rfl⟩, x, z, r, hz, rfl, rfl⟩ := h; exact ⟨⟨rfl, ⟨rfl, rfl, rfl⟩, x, z, r, hz, rfl, rfl⟩, h1.t.t.g (vOk.l _), h2, h3⟩
  | lneg => obtain ⟨rfl, ⟨rfl, rfl, rfl⟩, x, r, rfl, rfl⟩ := h; exact ⟨⟨rfl, ⟨rfl, rfl, rfl⟩, x, r, rfl, rfl⟩, h1.t.g (vOk.l _), h2, h3⟩
  | lcmp => obtain ⟨rfl, ⟨rfl, rfl, rfl⟩, x, z, r, rfl, rfl⟩ := h; exact ⟨⟨rfl, ⟨rfl, rfl, rfl⟩, x, z, r, rfl, rfl⟩, h1.t.t.g (vOk.i _), h2, h3⟩
  | i2l => obtain ⟨rfl, ⟨rfl, rfl, rfl⟩, x, r, rfl, rfl⟩ := h; exact ⟨⟨rfl, ⟨rfl, rfl, rfl⟩, x, r, rfl, rfl⟩, h1.t.g (vOk.l _), h2, h3⟩
  | l2i => obtain ⟨rfl, ⟨rfl, rfl, rfl⟩, x, r, rfl, rfl⟩ := h; exact ⟨⟨rfl, ⟨rfl, rfl, rfl⟩, x, r, rfl, rfl⟩, h1.t.g (vOk.i _), h2, h3⟩
  | i2b => obtain ⟨rfl, ⟨rfl, rfl, rfl⟩, x, r, rfl, rfl⟩ := h; exact ⟨⟨rfl, ⟨rfl, rfl, rfl⟩, x, r, rfl, rfl⟩, h1.t.g (vOk.i _), h2, h3⟩
  | _ => exact h.elim
theorem lOk.ent {n : Nat} {vs : List Value} (h : sOk n vs) (nL : Nat) : lOk n (xent vs nL) := fun v hv => by
  unfold xent at hv
  rcases List.mem_append.mp hv with z | z
  · obtain ⟨u, hu, z⟩ := List.mem_flatMap.mp z
    split at z
    · simp only [List.mem_cons, List.not_mem_nil, or_false] at z
      rcases z with z | z
      · cases z; exact h _ hu
      · cases z
    · simp only [List.mem_cons, List.not_mem_nil, or_false] at z
      cases z; exact h _ hu
  · have := List.eq_of_mem_replicate z
    cases this
/-- a call over fewer cells -/
theorem xEx_rs {n : Nat} : ∀ (d : Nat) (y : MethodName) (vs : List Value) (S : xS) (r : Option Value) (S' : xS), xEx (fun _ _ _ _ _ => False) false d y vs S r S' → rOk n S → sOk n vs → xEx (fun _ _ _ _ _ => False) true d y vs (rs n S) r (rs n S') ∧ rOk n S' ∧ ∀ v, r = some v → vOk n v
  | 0, _, _, _, _, _, h, _, _ => h.elim
  | d + 1, y, vs, S, r, S', h, h3, h4 => by
    rcases h with ⟨cc, nL, ret, k, hc, hp, hn, hl, h⟩ | h | h
    · have key : ∀ (k pc : Nat) (ls : List (Option Value)) (s0 : List Value) (S : xS), xRn (xEx (fun _ _ _ _ _ => False) false d) false none y cc ret k pc ls s0 S r S' → sOk n s0 → lOk n ls → rOk n S → xRn (xEx (fun _ _ _ _ _ => False) true d) true none y cc ret k pc ls s0 (rs n S) r (rs n S') ∧ rOk n S' ∧ ∀ v, r = some v → vOk n v := by
        intro k
        induction k with
        | zero =>
          rintro pc ls s0 S ⟨hr, rfl⟩ h1 h2 h3
          refine ⟨⟨hr, rfl⟩, h3, fun v hv => ?_⟩
          obtain ⟨i, len, -, -, hi⟩ := hr
          cases i with
          | ireturn => obtain ⟨x, ty, -, -, -, e⟩ := hi; rw [e] at hv; cases hv; exact vOk.i _
          | lreturn => obtain ⟨x, -, -, e⟩ := hi; rw [e] at hv; cases hv; exact vOk.l _
          | return_ => rw [hi.2.2] at hv; cases hv
          | _ => exact hi.elim
        | succ k ih =>
          rintro pc ls s0 S ⟨pc1, ls1, s1, S1, ⟨i, len, hd, hs⟩, hrest⟩ h1 h2 h3
          obtain ⟨a1, a2, a3, a4⟩ := xSm_rs (fun y vs S r S' => xEx_rs d y vs S r S') hs h1 h2 h3
          obtain ⟨b1, b2, b3⟩ := ih pc1 ls1 s1 S1 hrest a2 a3 a4
          exact ⟨⟨pc1, ls1, s1, _, ⟨i, len, hd, a1⟩, b1⟩, b2, b3⟩
      obtain ⟨a1, a2, a3⟩ := key k 0 _ _ _ h sOk.n (lOk.ent h4 nL) h3
      exact ⟨Or.inl ⟨cc, nL, ret, k, hc, hp, hn, hl, a1⟩, a2, a3⟩
    · exact h.elim
    · obtain ⟨a1, a2, a3⟩ := xEx_rs d y vs S r S' h h3 h4
      exact ⟨Or.inr (Or.inr a1), a2, a3⟩
