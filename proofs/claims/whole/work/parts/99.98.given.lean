/-! what the start gives: classes, rows, words, the constants of text (by program, wip/gen2/st98.py) -/
theorem arr_1 {a0 : Array Value} {s : State} {ty : FieldType} (h : (Cond.arrayClass ty).before a0 s = true) : ∃ cA, ArrOfT s cA ty ∧ s.vm.findClass ("[" ++ ty.toString) = some cA := by
  obtain ⟨ca, ka, comp, h1, h2, h3⟩ := Cond.arrayClass_spec h
  exact ⟨ca, fun n z => ⟨fun k h => (by cases h), ka, h2, comp, h3⟩, h1⟩
theorem arr_4 {a0 : Array Value} {s : State} {C : String} (h : (Cond.arrayOver (.object C)).before a0 s = true) : ∃ cA, ArrOfT s cA (.object C) ∧ va_RA s cA (.object C) := by
  obtain ⟨comp, ca, ka, h1, h2, h3, h4, h5⟩ := Cond.arrayOver_spec h
  exact ⟨ca, fun n z => ⟨fun k h => (by cases h), ka, h3, comp, h4⟩, ka, comp, h3, h4, h1, h5⟩
set_option maxRecDepth 20000 in
theorem ins_0 : Cond.instantiable RX0 16 ∈ lw_tbl := by decide +kernel
set_option maxRecDepth 20000 in
theorem ins_1 : Cond.instantiable RX1 7 ∈ lw_tbl := by decide +kernel
set_option maxRecDepth 20000 in
theorem ins_2 : Cond.instantiable RX2 7 ∈ lw_tbl := by decide +kernel
set_option maxRecDepth 20000 in
theorem ins_3 : Cond.instantiable RX3 1 ∈ lw_tbl := by decide +kernel
set_option maxRecDepth 20000 in
theorem ins_4 : Cond.instantiable RX4 4 ∈ lw_tbl := by decide +kernel
set_option maxRecDepth 20000 in
theorem ins_5 : Cond.instantiable RX5 6 ∈ lw_tbl := by decide +kernel
set_option maxRecDepth 20000 in
theorem ins_6 : Cond.instantiable RX6 13 ∈ lw_tbl := by decide +kernel
set_option maxRecDepth 20000 in
theorem ins_7 : Cond.instantiable RX7 7 ∈ lw_tbl := by decide +kernel
set_option maxRecDepth 20000 in
theorem ins_8 : Cond.instantiable RX8 6 ∈ lw_tbl := by decide +kernel
set_option maxRecDepth 20000 in
theorem ins_9 : Cond.instantiable RX9 2 ∈ lw_tbl := by decide +kernel
set_option maxRecDepth 20000 in
theorem ins_10 : Cond.instantiable RX10 19 ∈ lw_tbl := by decide +kernel
set_option maxRecDepth 20000 in
theorem ins_11 : Cond.instantiable RX11 91 ∈ lw_tbl := by decide +kernel
set_option maxRecDepth 20000 in
theorem arc_i : Cond.arrayClass .int ∈ lw_tbl := by decide +kernel
set_option maxRecDepth 20000 in
theorem arc_b : Cond.arrayClass .byte ∈ lw_tbl := by decide +kernel
set_option maxRecDepth 20000 in
theorem arc_z : Cond.arrayClass .boolean ∈ lw_tbl := by decide +kernel
set_option maxRecDepth 20000 in
theorem arc_j : Cond.arrayClass .long ∈ lw_tbl := by decide +kernel
theorem xC_of {s : State} {a0 : Array Value} (hts : ∀ w ∈ lw_tbl, w.before a0 s = true) : ∃ (D : va_G) (t : Nat → ClassId), xC s a0 D t := by
  obtain ⟨c0, i0, k0⟩ := u_known (C := RX0) (T := TX0) (N := 16) (n := 16) hts xin0 (hts _ ins_0)
  obtain ⟨c1, i1, k1⟩ := u_known (C := RX1) (T := TX1) (N := 7) (n := 7) hts xin1 (hts _ ins_1)
  obtain ⟨c2, i2, k2⟩ := u_known (C := RX2) (T := TX2) (N := 7) (n := 7) hts xin2 (hts _ ins_2)
  obtain ⟨c3, i3, k3⟩ := u_known (C := RX3) (T := TX3) (N := 1) (n := 1) hts xin3 (hts _ ins_3)
  obtain ⟨c4, i4, k4⟩ := u_known (C := RX4) (T := TX4) (N := 4) (n := 4) hts xin4 (hts _ ins_4)
  obtain ⟨c5, i5, k5⟩ := u_known (C := RX5) (T := TX5) (N := 6) (n := 6) hts xin5 (hts _ ins_5)
  obtain ⟨c6, i6, k6⟩ := u_known (C := RX6) (T := TX6) (N := 13) (n := 13) hts xin6 (hts _ ins_6)
  obtain ⟨c7, i7, k7⟩ := u_known (C := RX7) (T := TX7) (N := 7) (n := 7) hts xin7 (hts _ ins_7)
  obtain ⟨c8, i8, k8⟩ := u_known (C := RX8) (T := TX8) (N := 6) (n := 6) hts xin8 (hts _ ins_8)
  obtain ⟨c9, i9, k9⟩ := u_known (C := RX9) (T := TX9) (N := 2) (n := 2) hts xin9 (hts _ ins_9)
  obtain ⟨c10, i10, k10⟩ := u_known (C := RX10) (T := TX10) (N := 19) (n := 19) hts xin10 (hts _ ins_10)
  obtain ⟨c11, i11, k11⟩ := u_known (C := RX11) (T := TX11) (N := 91) (n := 91) hts xin11 (hts _ ins_11)
  obtain ⟨t0, p0, q0⟩ := arr_1 (hts _ arc_i)
  obtain ⟨t1, p1, q1⟩ := arr_1 (hts _ arc_b)
  obtain ⟨t2, p2, q2⟩ := arr_1 (hts _ arc_z)
  obtain ⟨t3, p3, q3⟩ := arr_1 (hts _ arc_j)
  obtain ⟨t4, p4, q4⟩ := arr_4 (hts _ xw_ao)
  refine ⟨(fun k => match k with
    | 0 => c0
    | 1 => c1
    | 2 => c2
    | 3 => c3
    | 4 => c4
    | 5 => c5
    | 6 => c6
    | 7 => c7
    | 8 => c8
    | 9 => c9
    | 10 => c10
    | _ => c11, fun k => match k with
    | 0 => i0
    | 1 => i1
    | 2 => i2
    | 3 => i3
    | 4 => i4
    | 5 => i5
    | 6 => i6
    | 7 => i7
    | 8 => i8
    | 9 => i9
    | 10 => i10
    | _ => i11), fun k => match k with
    | 0 => t0
    | 1 => t1
    | 2 => t2
    | 3 => t3
    | _ => t4, hts, ?_, ?_⟩
  · intro k q hq
    match k, hq with
    | 0, hq => cases hq; exact k0
    | 1, hq => cases hq; exact k1
    | 2, hq => cases hq; exact k2
    | 3, hq => cases hq; exact k3
    | 4, hq => cases hq; exact k4
    | 5, hq => cases hq; exact k5
    | 6, hq => cases hq; exact k6
    | 7, hq => cases hq; exact k7
    | 8, hq => cases hq; exact k8
    | 9, hq => cases hq; exact k9
    | 10, hq => cases hq; exact k10
    | 11, hq => cases hq; exact k11
    | k + 12, hq => simp [vwCl] at hq
  · intro k q hq
    match k, hq with
    | 0, hq => cases hq; exact ⟨p0, q0⟩
    | 1, hq => cases hq; exact ⟨p1, q1⟩
    | 2, hq => cases hq; exact ⟨p2, q2⟩
    | 3, hq => cases hq; exact ⟨p3, q3⟩
    | 4, hq => cases hq; exact ⟨p4, q4⟩
    | k + 5, hq => simp [xtys] at hq
/-! the constants of text -/
def sfFl : List Cond := flatC (Jvm.Cond.and given_1 narrow_1)
def tx63 : String := "person debt twist cross plank seed law east west bear fray rent painted owed frayed age due year rich two and or not "
def tx145 : String := "no such person"
def tx168 : String := "no such what"
set_option maxRecDepth 20000 in
theorem sf_cs : sfFl[4]? = some (Cond.eq (.static "java/lang/String" "COMPACT_STRINGS" "Z") (.int 1)) := by decide +kernel
set_option maxRecDepth 20000 in
theorem sf_fo : sfFl[5]? = some (Cond.isRef (.static "jdk/internal/util/Preconditions" "SIOOBE_FORMATTER" "Ljava/util/function/BiFunction;")) := by decide +kernel
set_option maxRecDepth 20000 in
theorem sf_us : sfFl[9]? = some (Cond.isRef (.static Bundle.tN "UNASSIGNED_STACK" Bundle.steD)) := by decide +kernel
set_option maxRecDepth 20000 in
theorem sf_ss : sfFl[10]? = some (Cond.isRef (.static Bundle.tN "SUPPRESSED_SENTINEL" Bundle.listD)) := by decide +kernel
set_option maxRecDepth 20000 in
theorem sf_ex : sfFl[37]? = some (Cond.exactly (Term.string RX8 63) "java/lang/String") := by decide +kernel
set_option maxRecDepth 20000 in
theorem sf_co : sfFl[38]? = some (Cond.eq (.field (Term.string RX8 63) "java/lang/String" "coder" "B") (.int 0)) := by decide +kernel
set_option maxRecDepth 20000 in
theorem sf_ar : sfFl[39]? = some (Cond.arrayOf (Term.field (Term.string RX8 63) "java/lang/String" "value" "[B") .byte) := by decide +kernel
set_option maxRecDepth 20000 in
theorem sf_le : sfFl[40]? = some (Cond.eq (.length (Term.field (Term.string RX8 63) "java/lang/String" "value" "[B")) (.int (Int32.ofNat 117))) := by decide +kernel
set_option maxRecDepth 20000 in
theorem sf_el : ∀ j, j < 117 → sfFl[41 + j]? = some (Cond.eq (.elem (Term.field (Term.string RX8 63) "java/lang/String" "value" "[B") (.int (Int32.ofNat j))) (.int (nI (WB.getD j 0)))) := by decide +kernel
set_option maxRecDepth 20000 in
theorem sf_e1 : sfFl[158]? = some (Cond.exactly (Term.string RX10 143) "java/lang/String") := by decide +kernel
set_option maxRecDepth 20000 in
theorem sf_e2 : sfFl[177]? = some (Cond.exactly (Term.string RX10 166) "java/lang/String") := by decide +kernel
set_option maxRecDepth 20000 in
theorem sf_nc : Cond.not (.castable xNE xIO) ∈ sfFl := by decide +kernel
set_option maxRecDepth 20000 in
theorem sb_cs : Cond.laysStatic "java/lang/String" "COMPACT_STRINGS" "Z" ∈ lw_tbl := by decide +kernel
set_option maxRecDepth 20000 in
theorem sb_ci : Cond.initialized "java/lang/String" ∈ lw_tbl := by decide +kernel
set_option maxRecDepth 20000 in
theorem sb_fo : Cond.laysStatic "jdk/internal/util/Preconditions" "SIOOBE_FORMATTER" "Ljava/util/function/BiFunction;" ∈ lw_tbl := by decide +kernel
set_option maxRecDepth 20000 in
theorem sb_fi : Cond.initialized "jdk/internal/util/Preconditions" ∈ lw_tbl := by decide +kernel
set_option maxRecDepth 20000 in
theorem sb_us : Cond.laysStatic Bundle.tN "UNASSIGNED_STACK" Bundle.steD ∈ lw_tbl := by decide +kernel
set_option maxRecDepth 20000 in
theorem sb_ss : Cond.laysStatic Bundle.tN "SUPPRESSED_SENTINEL" Bundle.listD ∈ lw_tbl := by decide +kernel
set_option maxRecDepth 20000 in
theorem sb_ti : Cond.initialized Bundle.tN ∈ lw_tbl := by decide +kernel
set_option maxRecDepth 20000 in
theorem sb_r63 : Cond.stringRef RX8 63 tx63 ∈ lw_tbl := by decide +kernel
set_option maxRecDepth 20000 in
theorem sb_r1 : Cond.stringRef RX10 143 tx145 ∈ lw_tbl := by decide +kernel
set_option maxRecDepth 20000 in
theorem sb_r2 : Cond.stringRef RX10 166 tx168 ∈ lw_tbl := by decide +kernel
set_option maxRecDepth 20000 in
theorem sb_io : Cond.castable xIO xIO ∈ lw_tbl := by decide +kernel
set_option maxRecDepth 20000 in
theorem sb_ne : Cond.castable xNE xNE ∈ lw_tbl := by decide +kernel
theorem wb_ok : ∀ i, i < 117 → ((nI (WB.getD i 0) &&& 255).toUInt32 % 65536).toInt32 = nI (WB.getD i 0) := by decide +kernel
section ST
variable {s : State} {a0 : Array Value}
theorem sf_at (hgv : (Jvm.Cond.and given_1 narrow_1).before a0 s = true) {i : Nat} {w : Cond} (h : sfFl[i]? = some w) : w.before a0 s = true := flat_of_before _ hgv w (List.mem_of_getElem? h)
theorem str_at {own : String} {k : Nat} {tx : String} (h1 : (Cond.stringRef own k tx).before a0 s = true) (h2 : (Cond.exactly (Term.string own k) "java/lang/String").before a0 s = true) : ∃ a, (Term.string own k).eval a0 s none [] s = some (.ref a) ∧ vk_R own k tx a s := by
  obtain ⟨a, ca, cA, kA, q1, q2, q3, q4, q5, q6, -⟩ := Cond.exactly_spec (args := a0) (first := s) (o := none) (s := s) (idx := []) (t := Term.string own k) (cls := "java/lang/String") h2
  exact ⟨a, q1, vk_R.of h1 q1⟩
theorem jA_no : ∀ a : Nat, a < s.heap.size → ¬ jdA s a := fun a h z => absurd h (Nat.not_lt.mpr z)
theorem jdW_of (hts : ∀ w ∈ lw_tbl, w.before a0 s = true) (hgv : (Jvm.Cond.and given_1 narrow_1).before a0 s = true) : ∃ a v, jdW s a v 117 (fun j => nI (WB.getD j 0)) ∧ vk_R RX8 63 tx63 a s := by
  obtain ⟨a, q1, hR⟩ := str_at (hts _ sb_r63) (sf_at hgv sf_ex)
  obtain ⟨v, hv, hT⟩ := va_Tof (tm := Term.field (Term.string RX8 63) "java/lang/String" "value" "[B") (ty := .byte) (N := 117) (f := fun j => .int (nI (WB.getD j 0))) (A := jdA s) (by decide) (sf_at hgv sf_ar) (va_eqt (sf_at hgv sf_le)) (fun j hj => va_eqt (sf_at hgv (sf_el j hj))) jA_no
  exact ⟨a, v, ⟨by decide, va_Oof (sf_at hgv sf_ex) q1 jA_no, vk_OFof q1 (va_eqt (sf_at hgv sf_co)) jA_no, vk_OFof q1 hv jA_no, hT, va_Zof (hts _ sb_cs) (hts _ sb_ci) (va_eqi (sf_at hgv sf_cs)) jA_no, va_Zqof (hts _ sb_fo) (hts _ sb_fi) (sf_at hgv sf_fo) jA_no⟩, hR⟩
theorem pW_of (hts : ∀ w ∈ lw_tbl, w.before a0 s = true) (hgv : (Jvm.Cond.and given_1 narrow_1).before a0 s = true) : ∃ sa1 sa2, pW s sa1 sa2 tx145 tx168 := by
  obtain ⟨sa1, -, h1⟩ := str_at (hts _ sb_r1) (sf_at hgv sf_e1)
  obtain ⟨sa2, -, h2⟩ := str_at (hts _ sb_r2) (sf_at hgv sf_e2)
  exact ⟨sa1, sa2, va_Nw.of rfl (hts _ sb_io), va_Nw.of rfl (hts _ sb_ne), va_Nc.of (flat_of_before _ hgv _ sf_nc), h1, h2, vx_Zqof (hts _ sb_us) (hts _ sb_ti) (sf_at hgv sf_us) jA_no, vx_Zqof (hts _ sb_ss) (hts _ sb_ti) (sf_at hgv sf_ss) jA_no⟩
theorem EWd_M {l : Launch} {D : va_G} {t : Nat → ClassId} {b : Nat} {ex : Bool} (C : xC s a0 D t) {a v : Nat} (hw : jdW s a v 117 (fun j => nI (WB.getD j 0))) (hZ : vk_R RX8 63 tx63 a s) : ∀ k, 10 ≤ k → ∀ y vs S r S', EWd y vs S r S' → xM l s D t b ex k y vs S r S' := by
  rintro k hk y vs S r S' ⟨I, J, P, s1, p, n, i, k1, v1, hP, h1, h2, h3, rfl, rfl, rfl, rfl, rfl⟩
  obtain ⟨d, rfl⟩ : ∃ d, k = d + 7 := ⟨k - 7, by omega⟩
  exact k_wordKind C hw wb_ok hZ hP h1 h2 h3 d
end ST
