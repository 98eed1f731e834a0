/-! person of the program: it answers or throws -/
def xIO : String := "java/lang/IndexOutOfBoundsException"
def xNE : String := "java/util/NoSuchElementException"
def xNm : List String := ["java/lang/RuntimeException", "java/lang/Exception"]
theorem xH.ext {s0 : State} {D : va_G} {t : Nat → ClassId} {b : Nat} {S : xS} {H H1 : Heap} (h : xH s0 D t b S H) (hz : H.size ≤ H1.size) (o1 : ∀ q : Nat, q < H.size → H1[q]? = H[q]?) : xH s0 D t b S H1 := by
  refine ⟨h.1.kept (fun k q hk => o1 q.1 ((h.1 k q hk).lt)), Nat.le_trans h.2.1 hz, fun q h1 h2 => ?_, fun _ z => by cases z⟩
  rw [o1 q (Nat.lt_of_lt_of_le h1 h.2.1)]
  exact h.2.2.1 q h1 h2
/-- what a throw of person rests on -/
def pW (s0 : State) (sa1 sa2 : Nat) (tx1 tx2 : String) : Prop := va_Nw (.castable xIO xIO) s0 ∧ va_Nw (.castable xNE xNE) s0 ∧ va_Nc xNE xIO s0 ∧ vk_R RX10 143 tx1 sa1 s0 ∧ vk_R RX10 166 tx2 sa2 s0 ∧ vx_Zq Bundle.tN "UNASSIGNED_STACK" Bundle.steD (jdA s0) s0 s0.heap ∧ vx_Zq Bundle.tN "SUPPRESSED_SENTINEL" Bundle.listD (jdA s0) s0 s0.heap
set_option maxRecDepth 20000 in
theorem xat1 : ∀ w ∈ (vx_atS RX10 145 xIO xNm).filter goodWord, w ∈ lw_tbl := by decide +kernel
abbrev xrx : ByteArray := prog_29_method_4_code
def xNm2 : List String := ["java/lang/Exception"]
theorem xrx0 : decode xrx 0 = .ok (.aload_n 0, 1) := by decide +kernel
theorem xrx1 : decode xrx 1 = .ok (.aload_n 1, 1) := by decide +kernel
theorem xrx2 : decode xrx 2 = .ok (.invokespecial 13, 3) := by decide +kernel
theorem xrx5 : decode xrx 5 = .ok (.return_, 1) := by decide +kernel
def xA2 : List Cond := (xAt RX10 168 xNE 13 xrx "java/lang/RuntimeException" xNm2).filter vx_no
set_option maxRecDepth 20000 in
theorem xat2 : ∀ w ∈ xA2.filter goodWord, w ∈ lw_tbl := by decide +kernel
def xBad (X Y : String) : List Cond := [Cond.castable X X, Cond.declares (Bundle.initS "java/lang/RuntimeException"), Cond.declares (Bundle.initS "java/lang/Exception"), Cond.declares (Bundle.initS "java/lang/Throwable")]
set_option maxRecDepth 20000 in
theorem xbt1 : ∀ w ∈ (vx_atS RX10 145 xIO xNm).filter (fun w => !goodWord w), w ∈ xBad xIO xIO := by decide +kernel
set_option maxRecDepth 20000 in
theorem xbt2 : ∀ w ∈ xA2.filter (fun w => !goodWord w), w ∈ xBad xNE xNE := by decide +kernel
set_option maxRecDepth 20000 in
theorem xot1 : ∀ w ∈ Cond.classLink RX10 141 xIO :: Cond.initialized xIO :: vx_atS RX10 145 xIO xNm, vx_ot w = true := by decide +kernel
set_option maxRecDepth 20000 in
theorem xot2 : ∀ w ∈ Cond.classLink RX10 164 xNE :: Cond.initialized xNE :: xA2, vx_ot w = true := by decide +kernel
set_option maxRecDepth 20000 in
theorem xlk1 : Cond.classLink RX10 141 xIO ∈ xgw ∧ Cond.initialized xIO ∈ xgw := ⟨List.mem_filter.mpr ⟨by decide +kernel, by decide +kernel⟩, List.mem_filter.mpr ⟨by decide +kernel, by decide +kernel⟩⟩
set_option maxRecDepth 20000 in
theorem xlk2 : Cond.classLink RX10 164 xNE ∈ xgw ∧ Cond.initialized xNE ∈ xgw := ⟨List.mem_filter.mpr ⟨by decide +kernel, by decide +kernel⟩, List.mem_filter.mpr ⟨by decide +kernel, by decide +kernel⟩⟩
