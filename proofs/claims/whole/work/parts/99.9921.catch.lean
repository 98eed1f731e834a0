/-! a throw is caught: what the search of a table finds, by linked rows (own proof: light rounds have no Shelf42) -/
section CA
variable {e : Env} {f : JFrame} {a : Addr}
/-- a row that covers the place and whose class links: it takes the thing, or it is passed -/
theorem ca_row {s : State} {Q : Handler → Pre} {E : CtlPost} {d : Bool} {acts : List Action} {x : ExceptionTableEntry} {u : List ExceptionTableEntry} {k : ClassId} {cell : Cell} (hx : covers x f.pc = true) (h0 : x.catchType ≠ 0)
    (hl : s.vm.ClassLinks e.platform f.method.cls x.catchType k) (hcell : s.heap[a]? = some cell) (hobj : ∀ k, cell.vm ≠ .statics k) (hk : ∃ k, s.vm.classes[cell.cls]? = some k) (hc : ∃ z, s.vm.classes[k]? = some z) :
    wp (findHandler.go f a (x :: u)) Q E e d acts s ↔ if s.vm.assignable cell.cls k = true then Q (.found x.handlerPc) d acts (s.setVm (s.vm.noted f.method.cls x.catchType (.cls k))) else wp (findHandler.go f a u) Q E e d acts (s.setVm (s.vm.noted f.method.cls x.catchType (.cls k))) := by
  simp only [covers] at hx
  obtain ⟨ha, ht⟩ := (resolveClass_links e.toSetting hl).op (op := VmOp.resolveClass f.method.cls x.catchType) rfl
  have hal : s.vm.Alike (s.vm.noted f.method.cls x.catchType (.cls k)) := (Vm.Alike.refl s.vm).noted _ _ _
  obtain ⟨k1, hk1⟩ := hk
  obtain ⟨k2, hk2⟩ := hc
  obtain ⟨k3, hk3, -⟩ := hal.2.2 _ _ hk1
  obtain ⟨k4, hk4, -⟩ := hal.2.2 _ _ hk2
  cases hfit : s.vm.assignable cell.cls k with
  | true =>
    have hf2 : (s.vm.noted f.method.cls x.catchType (.cls k)).assignable cell.cls k = true := by rw [hal.assignable]; exact hfit
    simp [findHandler.go, hx, h0, ha, ht, hcell, hobj, hk3, hk4, hf2, VmOp.dirties, VmOp.acts]
  | false =>
    have hf2 : (s.vm.noted f.method.cls x.catchType (.cls k)).assignable cell.cls k = false := by rw [hal.assignable]; exact hfit
    simp [findHandler.go, hx, h0, ha, ht, hcell, hobj, hk3, hk4, hf2, VmOp.dirties, VmOp.acts]
/-- how a row ahead is passed -/
def caP (e : Env) (s0 : State) (f : JFrame) (th : ClassId) (z : ExceptionTableEntry) : Prop := covers z f.pc = false ∨ (z.catchType ≠ 0 ∧ ∃ k, s0.vm.ClassLinks e.platform f.method.cls z.catchType k ∧ s0.vm.assignable th k = false)
theorem ca_go {s0 : State} {cell : Cell} (hobj : ∀ k, cell.vm ≠ .statics k) (hk0 : ∃ k, s0.vm.classes[cell.cls]? = some k) {x : ExceptionTableEntry} {suf : List ExceptionTableEntry} (hx : covers x f.pc = true) (h0 : x.catchType ≠ 0) {kx : ClassId} (hl : s0.vm.ClassLinks e.platform f.method.cls x.catchType kx) (hfit : s0.vm.assignable cell.cls kx = true) :
    ∀ (pre : List ExceptionTableEntry) (s : State), s0.WarmedH s.vm → s.heap[a]? = some cell → (∀ z ∈ pre, caP e s0 f cell.cls z) → ∃ vm', s0.WarmedH vm' ∧ ∀ (Q : Handler → Pre) (E : CtlPost) (d : Bool) (acts : List Action), wp (findHandler.go f a (pre ++ x :: suf)) Q E e d acts s ↔ Q (.found x.handlerPc) d acts (s.setVm vm') := by
  obtain ⟨kc, hkc⟩ := hk0
  intro pre
  induction pre with
  | nil =>
    intro s hW hcell _
    obtain ⟨kd, hkd, -⟩ := hW.alike.2.2 _ _ hkc
    obtain ⟨dk, _, _, kt, hd, _, _, _, _, hkt, _, hop⟩ := hl.here
    obtain ⟨ku, hku, -⟩ := hW.alike.2.2 _ _ hkt
    refine ⟨_, hW.noted hd hop (State.rightAt_cls hl), fun Q E d acts => ?_⟩
    rw [List.nil_append, ca_row hx h0 (hW.classLinks hl) hcell hobj ⟨kd, hkd⟩ ⟨ku, hku⟩, if_pos (by rw [hW.alike.assignable]; exact hfit)]
  | cons y ys ih =>
    intro s hW hcell hp
    have hr : ∀ z ∈ ys, caP e s0 f cell.cls z := fun z hz => hp z (List.mem_cons_of_mem _ hz)
    by_cases hcov : covers y f.pc = true
    · rcases hp y List.mem_cons_self with h | ⟨hy0, k, hlk, hno⟩
      · rw [h] at hcov; cases hcov
      · obtain ⟨kd, hkd, -⟩ := hW.alike.2.2 _ _ hkc
        obtain ⟨dk, _, _, kt, hd, _, _, _, _, hkt, _, hop⟩ := hlk.here
        obtain ⟨ku, hku, -⟩ := hW.alike.2.2 _ _ hkt
        obtain ⟨vm', hW', hq⟩ := ih (s.setVm (s.vm.noted f.method.cls y.catchType (.cls k))) (hW.noted hd hop (State.rightAt_cls hlk)) hcell hr
        refine ⟨vm', hW', fun Q E d acts => ?_⟩
        rw [List.cons_append, ca_row hcov hy0 (hW.classLinks hlk) hcell hobj ⟨kd, hkd⟩ ⟨ku, hku⟩, if_neg (by rw [hW.alike.assignable, hno]; decide)]
        exact hq Q E d acts
    · obtain ⟨vm', hW', hq⟩ := ih s hW hcell hr
      refine ⟨vm', hW', fun Q E d acts => ?_⟩
      rw [List.cons_append, _root_.Jvm.W.findHandler_go_skip (by simpa using hcov)]
      exact hq Q E d acts
theorem ca_step {s : State} {u : List Frame} {pc : Nat} {vm' : Vm} (hfind : ∀ (Q : Handler → Pre) (E : CtlPost) (d : Bool) (acts : List Action), wp (findHandler f a) Q E e d acts s ↔ Q (.found pc) d acts (s.setVm vm')) : (stepThrowing e s a (.java f :: u)).1 = (s.setVm vm').setFrames (.java { f with pc := pc, stack := [.ref a] } :: u) := by
  simp only [stepThrowing, searchFrame, vmDo]
  generalize hr : Sem.go _ e false [] s = res
  obtain ⟨as, rfl, ha⟩ := Sem.eq_ok_of hr (a := Handler.found pc) (s' := s.setVm vm') (acts' := []) (by simp [hfind _ _ _ _])
  rfl
end CA
theorem ca_fr (s : State) (vm' : Vm) (F G : List Frame) : ((s.setFrames F).setVm vm').setFrames G = (s.setVm vm').setFrames G := by
  rw [show (s.setFrames F).setVm vm' = (s.setVm vm').setFrames F from rfl, State.setFrames_setFrames]
theorem vxC_ok : vxC := by
  unfold vxC
  intro p l e R s m args below meth c H locs cells slots Q pc ls rest own name E ce q hown pre x suf hsplit hpass hx h0 hlink hcast hcell hv hcl kk
  intro T hT X
  have hpl : e.platform.magicAccessors = ({} : Platform).magicAccessors := by rw [X.admits.platform]
  obtain ⟨c3, c4, hc3, hc4, hasg⟩ := Cond.castable_spec hcast
  cases Option.some.inj (hc3.symm.trans hcl)
  obtain ⟨c5, hc5, hcl5⟩ := Cond.classLink_spec hown hlink e.platform hpl
  cases Option.some.inj (hc4.symm.trans hc5)
  obtain ⟨k9, h9, -⟩ := Vm.findClass_spec hcl
  obtain ⟨vm', hW', hgo⟩ := ca_go (e := e) (f := F0 m pc ls rest) (a := q) (s0 := s) (cell := ce) (suf := suf) (fun k z => by rw [hv] at z; cases z) ⟨k9, h9⟩ hx h0 hcl5 hasg pre ((T.setTop (F0 m pc ls rest)).pushFrame (.throwing q)) X.warmed (by show T.heap[q]? = some ce; rw [hT]; exact hcell)
    (fun z hz => by
      rcases hpass z hz with h | ⟨hz0, nm, hl1, hn1⟩
      · exact Or.inl h
      · obtain ⟨c6, hc6, hcl6⟩ := Cond.classLink_spec hown hl1 e.platform hpl
        obtain ⟨a8, b8, h1, h2, h3⟩ := hn1
        cases Option.some.inj (h1.symm.trans hcl)
        cases Option.some.inj (h2.symm.trans hc6)
        exact Or.inr ⟨hz0, _, hcl6, h3⟩)
  have hfind : ∀ (Q : Handler → Pre) (E : CtlPost) (d : Bool) (acts : List Action), wp (findHandler (F0 m pc ls rest) q) Q E e d acts ((T.setTop (F0 m pc ls rest)).pushFrame (.throwing q)) ↔ Q (.found x.handlerPc) d acts (((T.setTop (F0 m pc ls rest)).pushFrame (.throwing q)).setVm vm') := fun Q E d acts => by
    rw [_root_.Jvm.W.findHandler_eq (meth := meth) (code := c) X.method' X.code, hsplit]
    exact hgo Q E d acts
  obtain ⟨t, a1, b1⟩ := kk (T.setVm vm') hT (X.noted hW')
  refine ⟨t, ?_, b1⟩
  have hat : At T (F0 m pc ls rest).method c below := X.here
  obtain ⟨hgn, hw⟩ := hat.throwing q
  refine Steps.head hgn hw ?_
  rw [stepThread_throwing (frames_entered hat.top _), ca_step (s := (T.setTop (F0 m pc ls rest)).pushFrame (.throwing q)) hfind]
  obtain ⟨g0, hg⟩ := Option.isSome_iff_exists.mp hat.top
  obtain ⟨r, hr⟩ := State.topJava?_eq_some.mp hg
  have hr2 : (T.setVm vm').frames = .java g0 :: r := hr
  rw [State.setTop_of_frames _ hr2] at a1
  rw [hr, List.tail_cons, State.pushFrame, ca_fr, State.setTop_of_frames _ hr, ca_fr]
  exact a1
