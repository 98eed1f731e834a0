/-! a method's run by the abstract machine is its contract -/
theorem xus_le {S S' : xS} (h : S.1 <+: S'.1) : S.1.length ≤ S'.1.length ∧ xus S ≤ xus S' := by
  obtain ⟨q, hq⟩ := h
  constructor
  · rw [← hq]; simp
  · rw [xus, xus, ← hq]; simp
section XR
variable {p : Program} {l : Launch} {e : Env} {R : Room} {s : State} {m : MethodId} {args : Array Value} {below : List Frame} {meth : Method} {c : Code} {s0 : State} {a0 : Array Value} {D : va_G} {t : Nat → ClassId} {b nL : Nat} {y : MethodName} {cc : ByteArray} {ret : Option FieldType} {ex : Bool} {X : Option (Nat × (Nat → Int32))} {call : xCl} {d : Nat}
theorem x_run (C : xC s0 a0 D t) (M : xMx p s m meth c s0 y cc nL ret) (hX : ∀ L xs, X = some (L, xs) → va_X b L xs s s0.heap ∧ b < s0.heap.size) (hsh : ∀ y vs S r S', call y vs S r S' → S.1 <+: S'.1) (hcall : ∀ y vs S r S', call y vs S r S' → xM l s0 D t b ex d y vs S r S') (hR : d + 1 ≤ R.frames ∧ 80 * (d + 1) ≤ R.locals) {r : Option Value} {S' : xS} {mc ms : Nat} (hmc : mc ≤ R.cells) (hms : ms ≤ R.slots) :
    ∀ (n cells slots pc : Nat) (ls : List (Option Value)) (st : List Value) (S : xS), xRn call ex X y cc ret n pc ls st S r S' → (ex = true → s.heap.size + cells = s0.heap.size + S.1.length) → cells + (S'.1.length - S.1.length) = mc → slots + (xus S' - xus S) = ms →
      xG p l e R s m args below meth c (MQ below (fun _ _ oc u => oc = .returned (r.map (xcv b s0.heap.size)) ∧ xH s0 D t b S' u.heap) args s mc ms (fun q => s0.heap.size ≤ q)) s0 D t b nL cells slots pc ls st S := by
  intro n
  induction n with
  | zero =>
    intro cells slots pc ls st S h hex h1 h2
    obtain ⟨⟨i, len, hd, rfl, h⟩, rfl⟩ := h
    rw [Nat.sub_self, Nat.add_zero] at h1 h2
    subst h1; subst h2
    obtain ⟨hx, hb, hml, hr, hlk, hown, hnm, hW⟩ := M
    intro H locs lr hL hH hlo
    cases i with
    | ireturn =>
      obtain ⟨x, ty, rfl, rfl, hn, rfl⟩ := h
      exact W.zret hx hb hr hn (fun u hu _ => ⟨rfl, by rw [hu]; exact hH⟩) hlo hd hlk
    | lreturn =>
      obtain ⟨x, rfl, rfl, rfl⟩ := h
      exact W.lret hx hb hr (fun u hu _ => ⟨rfl, by rw [hu]; exact hH⟩) hlo hd hlk
    | return_ =>
      obtain ⟨rfl, rfl, rfl⟩ := h
      exact W.vret hx hb hr (fun u hu _ => ⟨rfl, by rw [hu]; exact hH⟩) hlo hd hlk
    | _ => exact h.elim
  | succ n ih =>
    intro cells slots pc ls st S h hex h1 h2
    obtain ⟨pc1, ls1, s1, S1, hs, hn⟩ := h
    have g1 := xus_le (xSt_sh hsh hs)
    have g2 := xus_le (xRn_sh hsh n _ _ _ _ _ _ hn)
    refine x_step C M hX hcall hR hs hex (by omega) (by omega) (ih _ _ _ _ _ _ hn (fun q => ?_) (by omega) (by omega))
    have := hex q
    omega
end XR
theorem xen_len (vs : List Value) : (vs.flatMap (fun v => if v.category = 2 then [some v, none] else [some v])).length = (lg_sl vs).length := by
  unfold lg_sl
  induction vs with
  | nil => rfl
  | cons v vs ih =>
    simp only [List.flatMap_cons, List.length_append, ih]
    split <;> rfl
theorem xsl_len (b B : Nat) (vs : List Value) : (lg_sl (vs.map (xcv b B))).length = (lg_sl vs).length := by
  unfold lg_sl
  induction vs with
  | nil => rfl
  | cons v vs ih =>
    simp only [List.map_cons, List.flatMap_cons, List.length_append, ih, xcv_cat]
    split <;> rfl
theorem xen_mem (b B : Nat) : ∀ (vs : List Value) (k i : Nat) (v : Value), (vs.flatMap (fun v => if v.category = 2 then [some v, none] else [some v]))[i]? = some (some v) → (k + i, xcv b B v) ∈ lv_args k (vs.map (xcv b B))
  | [], k, i, v, h => by simp at h
  | u :: vs, k, i, v, h => by
    rw [List.flatMap_cons] at h
    simp only [List.map_cons, lv_args, xcv_cat]
    by_cases hc : u.category = 2
    · rw [if_pos hc] at h ⊢
      match i, h with
      | 0, h => cases h; exact List.mem_cons_self
      | 1, h => cases h
      | i + 2, h =>
        have h : (vs.flatMap (fun v => if v.category = 2 then [some v, none] else [some v]))[i]? = some (some v) := h
        have := xen_mem b B vs (k + 2) i v h
        rw [show k + (i + 2) = k + 2 + i by omega]
        exact List.mem_cons_of_mem _ this
    · rw [if_neg hc] at h ⊢
      match i, h with
      | 0, h => cases h; exact List.mem_cons_self
      | i + 1, h =>
        have h : (vs.flatMap (fun v => if v.category = 2 then [some v, none] else [some v]))[i]? = some (some v) := h
        have := xen_mem b B vs (k + 1) i v h
        rw [show k + (i + 1) = k + 1 + i by omega]
        exact List.mem_cons_of_mem _ this
theorem xent_L {b B : Nat} {vs : List Value} {nL : Nat} {lr : Array Slot} (hle : (lg_sl vs).length ≤ nL) (h : lv_has lr nL (lv_args 0 (vs.map (xcv b B)))) : xL b B (xent vs nL) lr nL := by
  have hz := xen_len vs
  refine ⟨⟨h.1, h.2.1, fun q hq => ?_⟩, ?_⟩
  · obtain ⟨i, w⟩ := q
    obtain ⟨v, hv, rfl⟩ := xlv_mem.mp hq
    refine h.2.2 _ ?_
    have hv2 : (vs.flatMap (fun v => if v.category = 2 then [some v, none] else [some v]))[i]? = some (some v) := by
      unfold xent at hv
      by_cases hl : i < (vs.flatMap (fun v => if v.category = 2 then [some v, none] else [some v])).length
      · rw [List.getElem?_append_left hl] at hv
        exact hv
      · rw [List.getElem?_append_right (by omega), List.getElem?_replicate] at hv
        split at hv <;> cases hv
    have := xen_mem b B vs 0 i v hv2
    rw [Nat.zero_add] at this
    exact this
  · unfold xent
    rw [List.length_append, List.length_replicate]
    omega
/-- THE CONTRACT of a call that the abstract machine makes -/
theorem x_met {l : Launch} {s0 : State} {a0 : Array Value} {D : va_G} {t : Nat → ClassId} {b : Nat} {ex : Bool} {E : xCl} (C : xC s0 a0 D t) (hEs : ∀ y vs S r S', E y vs S r S' → S.1 <+: S'.1) (hE : ∀ k, 10 ≤ k → ∀ y vs S r S', E y vs S r S' → xM l s0 D t b ex k y vs S r S') :
    ∀ (d k : Nat), d + 10 ≤ k → ∀ (y : MethodName) (vs : List Value) (S : xS) (r : Option Value) (S' : xS), xEx E ex d y vs S r S' → xM l s0 D t b ex k y vs S r S' := by
  intro d
  induction d with
  | zero => intro k _ y vs S r S' h; exact h.elim
  | succ d ih =>
    intro k hk y vs S r S' h
    rcases h with ⟨cc, nL, ret, n, hcode, hplain, hnl, hle, h⟩ | h | h
    · refine ⟨cc, nL, ret, hcode, hnl, ?_, ?_⟩
      · intro hr
        subst hr
        have key : ∀ (n pc : Nat) (ls : List (Option Value)) (s0 : List Value) (S : xS), xRn (xEx E ex d) ex none y cc ret n pc ls s0 S none S' → ret = none := by
          intro n
          induction n with
          | zero =>
            intro pc ls s0 S h
            obtain ⟨⟨i, len, -, -, h⟩, -⟩ := h
            cases i with
            | ireturn => obtain ⟨x, ty, -, -, -, h⟩ := h; cases h
            | lreturn => obtain ⟨x, -, -, h⟩ := h; cases h
            | return_ => exact h.2.1
            | _ => exact h.elim
          | succ n ih2 =>
            intro pc ls s0 S h
            obtain ⟨_, _, _, _, -, h⟩ := h
            exact ih2 _ _ _ _ h
        exact key _ _ _ _ _ h
      · refine Met.ofW (cc := cc) (maxL := nL) (ret := ret) hplain rfl ?_
        intro p e s m args below meth c s₁ B hml hv
        obtain ⟨rfl, hW, hH, hsz⟩ := hv
        have hM : xMx p s m meth c s0 y cc nL ret := ⟨B.exec, B.bytes, hml, B.returns, B.notSynchronized, findClass_of_methodNamed B.named, (name_of_methodNamed B.named B.method).1, hW⟩
        have hl := lv_entry (vs.map (xcv b s0.heap.size)) (n := nL) (by rw [xsl_len]; exact hle)
        rw [lg_entry_eq]
        generalize (lg_sl (vs.map (xcv b s0.heap.size)) ++ List.replicate (nL - (lg_sl (vs.map (xcv b s0.heap.size))).length) Slot.unset).toArray = lr at hl ⊢
        exact x_run (R := xrm k (S'.1.length - S.1.length) (xus S' - xus S)) (mc := S'.1.length - S.1.length) (ms := xus S' - xus S) (d := k - 1) C hM (fun L xs h => by cases h) (xEx_sh hEs d) (fun y vs S r S' h => ih (k - 1) (by omega) y vs S r S' h) ⟨by show k - 1 + 1 ≤ k; omega, by show 80 * (k - 1 + 1) ≤ 80 * k; omega⟩ (Nat.le_refl _) (Nat.le_refl _) n 0 0 0 (xent vs nL) [] S h (fun q => by have := hsz q; omega) (by omega) (by omega) s.heap [] lr (xent_L hle hl) hH (fun q h => by cases h)
    · exact hE k (by omega) y vs S r S' h
    · exact ih k (by omega) y vs S r S' h
