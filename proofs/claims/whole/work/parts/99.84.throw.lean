/-! person of the program: a contract that answers or throws -/
set_option maxRecDepth 20000 in
theorem xwD1 : Cond.declares (Bundle.initS "java/lang/RuntimeException") ∈ lw_tbl := by decide +kernel
set_option maxRecDepth 20000 in
theorem xwD2 : Cond.declares (Bundle.initS "java/lang/Exception") ∈ lw_tbl := by decide +kernel
set_option maxRecDepth 20000 in
theorem xwD3 : Cond.declares (Bundle.initS "java/lang/Throwable") ∈ lw_tbl := by decide +kernel
section PX
variable {p : Program} {l : Launch} {e : Env} {R : Room} {s : State} {m : MethodId} {args : Array Value} {below : List Frame} {meth : Method} {c : Code} {H : Heap} {locs : List Loc} {cells slots : Nat} {Q : State → Prop}
theorem x_low {g : JFrame} (h : s.heap.size ≤ H.size → W p l e R s m args below meth c H locs cells slots Q g) : W p l e R s m args below meth c H locs cells slots Q g := fun T hT X => h (by rw [← hT]; exact (vx_frame X.same).1) T hT X
variable {s0 : State} {a0 : Array Value} {D : va_G} {t : Nat → ClassId} {b nL : Nat} {y : MethodName} {cc : ByteArray} {ret : Option FieldType} {Qc : Array Value → State → Outcome → State → Prop} {XC : String → State → State → Prop} {sa1 sa2 : Nat} {tx1 tx2 : String}
theorem bad_at (C : xC s0 a0 D t) (hW : s0.WarmedH s.vm) {X : String} (hc : va_Nw (.castable X X) s0) : ∀ w ∈ xBad X X, w.before args s = true := by
  intro w hw
  simp only [xBad, List.mem_cons, List.not_mem_nil, or_false] at hw
  rcases hw with rfl | rfl | rfl | rfl
  · exact (va_Nw.warmC hW hc).use rfl
  · exact (va_Nw.warmD hW (va_Nw.of rfl (C.1 _ xwD1))).use rfl
  · exact (va_Nw.warmD hW (va_Nw.of rfl (C.1 _ xwD2))).use rfl
  · exact (va_Nw.warmD hW (va_Nw.of rfl (C.1 _ xwD3))).use rfl
theorem good_at (C : xC s0 a0 D t) (hW : s0.WarmedH s.vm) {L : List Cond} (h : ∀ w ∈ L.filter goodWord, w ∈ lw_tbl) : ∀ w ∈ L.filter goodWord, w.before args s = true := fun w hw => C.w hW (args := args) w (List.mem_filter.mpr ⟨h w hw, (List.mem_filter.mp hw).2⟩)
theorem xG_iretX (M : xMx p s m meth c s0 y cc nL ret) {pc : Nat} {ls : List (Option Value)} {x : Int32} {S : xS} (hd : decode cc pc = .ok (.ireturn, 1)) {ty : FieldType} (hr : ret = some ty) (hn : narrow ty (.int x) = .int x) (hq : ∀ a st u, xH s0 D t b S u.heap → Qc a st (.returned (some (.int x))) u) : xG p l e R s m args below meth c (vx_MQ below Qc XC args s 1 6 (fun q => s0.heap.size ≤ q)) s0 D t b nL 0 0 pc ls [.int x] S := by
  obtain ⟨hx, hb, hml, hr2, hlk, hown, hnm, hW⟩ := M
  subst hr
  intro H locs lr hL hH hlo
  exact W.widen (k := 1) (n := 6) (by omega) (by omega) (vx_ret (W.zret hx hb hr2 hn (fun u hu _ => hq _ _ _ (by rw [hu]; exact hH)) hlo hd hlk))
theorem xG_throw1 (C : xC s0 a0 D t) (hl : l.stackTraces = false) (pw : pW s0 sa1 sa2 tx1 tx2) (M : xMx p s m meth c s0 yX10_person cX10_person nL ret) (hT0 : ∀ x ∈ c.exceptionTable.toList, False) (hS0 : va_S (jdA s0) s0.heap s.heap []) {ls : List (Option Value)} {S : xS} (hq : ∀ st u, xH s0 D t b S u.heap → XC xIO st u) : xG p l e (xrm 20 1 6) s m args below meth c (vx_MQ below Qc XC args s 1 6 (fun q => s0.heap.size ≤ q)) s0 D t b nL 0 0 8 ls [] S := by
  obtain ⟨hx, hb, hml, hr2, hlk, hown, hnm, hW⟩ := M
  obtain ⟨p1, p2, p3, p4, p5, p6, p7⟩ := pw
  have hts := C.w hW (args := args)
  intro H locs lr hL hH hlo
  refine x_low fun hz => ?_
  have hS : va_S (jdA s0) s.heap H locs := ⟨hz, fun q h1 h2 => by
    have h3 : q < s0.heap.size := Nat.lt_of_not_le h2
    rw [hH.2.2.1 q h3 h2, hS0.2.1 q h3 h2], hlo⟩
  exact vx_throwS (sa := sa1) (names := xNm) hx hb hl hown (by decide +kernel) (by decide +kernel) (hts _ xlk1.1) (hts _ xlk1.2) (p4.warm hW) (vx_hat (good_at C hW xat1) xbt1 (bad_at C hW p1)) xot1 ((vx_Zq.moved hW.alike p6).kept hS0.2.1) ((vx_Zq.moved hW.alike p7).kept hS0.2.1) hS (by rw [hml]; exact hL.1.1) dX10_person_8 dX10_person_11 dX10_person_12 dX10_person_14 dX10_person_17 (fun x hx => (hT0 x hx).elim) (by decide) (Nat.le_of_ble_eq_true rfl) (by decide) (by decide) hlk (fun u _ h2 h3 => hq _ _ (hH.ext h2 h3)) hlo (by decide) (by decide)
theorem xG_throw2 (C : xC s0 a0 D t) (hl : l.stackTraces = false) (pw : pW s0 sa1 sa2 tx1 tx2) (M : xMx p s m meth c s0 yX10_person cX10_person nL ret) (hT0 : ∀ x ∈ c.exceptionTable.toList, False) (hS0 : va_S (jdA s0) s0.heap s.heap []) {ls : List (Option Value)} {S : xS} (hq : ∀ st u, xH s0 D t b S u.heap → XC xNE st u) : xG p l e (xrm 20 1 6) s m args below meth c (vx_MQ below Qc XC args s 1 6 (fun q => s0.heap.size ≤ q)) s0 D t b nL 0 0 116 ls [] S := by
  obtain ⟨hx, hb, hml, hr2, hlk, hown, hnm, hW⟩ := M
  obtain ⟨p1, p2, p3, p4, p5, p6, p7⟩ := pw
  have hts := C.w hW (args := args)
  intro H locs lr hL hH hlo
  refine x_low fun hz => ?_
  have hS : va_S (jdA s0) s.heap H locs := ⟨hz, fun q h1 h2 => by
    have h3 : q < s0.heap.size := Nat.lt_of_not_le h2
    rw [hH.2.2.1 q h3 h2, hS0.2.1 q h3 h2], hlo⟩
  exact vx_throwX (sa := sa2) (names := xNm2) (sup := "java/lang/RuntimeException") hx hb hl hown (by decide +kernel) (by decide +kernel) xrx0 xrx1 xrx2 xrx5 (by decide +kernel) (hts _ xlk2.1) (hts _ xlk2.2) (p5.warm hW) (vx_hat (good_at C hW xat2) xbt2 (bad_at C hW p2)) xot2 ((vx_Zq.moved hW.alike p6).kept hS0.2.1) ((vx_Zq.moved hW.alike p7).kept hS0.2.1) hS (by rw [hml]; exact hL.1.1) dX10_person_116 dX10_person_119 dX10_person_120 dX10_person_122 dX10_person_125 (fun x hx => (hT0 x hx).elim) (by decide) (Nat.le_of_ble_eq_true rfl) (by decide) (by decide) hlk (fun u _ h2 h3 => hq _ _ (hH.ext h2 h3)) hlo (by decide) (by decide)
end PX
