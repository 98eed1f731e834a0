/-! walking: a row an instruction (by program, wip/gen/rlem.py) -/
def xR (call : xCl) (ex : Bool) (X : Option (Nat × (Nat → Int32))) (y : MethodName) (cc : ByteArray) (ret : Option FieldType) (pc : Nat) (ls : List (Option Value)) (st : List Value) (S : xS) (Q : Option Value → xS → Prop) : Prop := ∃ n r S', xRn call ex X y cc ret n pc ls st S r S' ∧ Q r S'
def xEq (r : Option Value) (S' : xS) : Option Value → xS → Prop := fun r1 S1 => r1 = r ∧ S1 = S'
def xCo (y : MethodName) (cc : ByteArray) (nL : Nat) (ret : Option FieldType) : Prop := Cond.code y cc nL ret ∈ xgw ∧ plainName y.cls = true ∧ nL ≤ 40
theorem x_enter {E : xCl} {ex : Bool} {d : Nat} {y : MethodName} {cc : ByteArray} {nL : Nat} {ret : Option FieldType} (hco : xCo y cc nL ret) {vs : List Value} {S S' : xS} {r : Option Value} (ls : List (Option Value)) (hls : xent vs nL = ls) (hle : (lg_sl vs).length ≤ nL) (h : xR (xEx E ex d) ex none y cc ret 0 ls [] S (xEq r S')) : xEx E ex (d + 1) y vs S r S' := by
  obtain ⟨n, r1, S1, h, rfl, rfl⟩ := h
  exact Or.inl ⟨cc, nL, ret, n, hco.1, hco.2.1, hco.2.2, hle, by rw [hls]; exact h⟩
theorem x_enterq {E : xCl} {ex : Bool} {d : Nat} {y : MethodName} {cc : ByteArray} {nL : Nat} {ret : Option FieldType} (hco : xCo y cc nL ret) {vs : List Value} {S : xS} {Q : Option Value → xS → Prop} (ls : List (Option Value)) (hls : xent vs nL = ls) (hle : (lg_sl vs).length ≤ nL) (h : xR (xEx E ex d) ex none y cc ret 0 ls [] S Q) : ∃ r S', xEx E ex (d + 1) y vs S r S' ∧ Q r S' := by
  obtain ⟨n, r1, S1, h, hq⟩ := h
  exact ⟨r1, S1, Or.inl ⟨cc, nL, ret, n, hco.1, hco.2.1, hco.2.2, hle, by rw [hls]; exact h⟩, hq⟩
theorem x_up {E : xCl} {ex : Bool} {y : MethodName} {vs : List Value} {S S' : xS} {r : Option Value} {d : Nat} (k : Nat) (h : xEx E ex d y vs S r S') : xEx E ex (d + k) y vs S r S' := by
  induction k with
  | zero => exact h
  | succ k ih => exact Or.inr (Or.inr ih)
theorem x_le {E : xCl} {ex : Bool} {y : MethodName} {vs : List Value} {S S' : xS} {r : Option Value} {d e : Nat} (hk : d ≤ e) (h : xEx E ex d y vs S r S') : xEx E ex e y vs S r S' := by
  have := x_up (e - d) h
  rwa [show d + (e - d) = e by omega] at this
def xzn {α : Type} [OfNat α 0] (f : Nat → Nat → α) (sh : List (xK × Nat)) : Nat → Nat → α := fun a k => if a = sh.length then 0 else f a k
def xsn (c : xK) (n : Nat) (sh : List (xK × Nat)) : List (xK × Nat) := sh ++ [(c, n)]
def xcp (I : Nat → Nat → Int32) (a0 sp a1 dp n : Nat) : Nat → Nat → Int32 := fun a k => if a = a1 ∧ dp ≤ k ∧ k < dp + n then I a0 (sp + (k - dp)) else I a k
def xw1 (o : Option Value) : Bool := match o with
  | some v => v.category != 2
  | none => true
section RL
variable {call : xCl} {ex : Bool} {X : Option (Nat × (Nat → Int32))} {y : MethodName} {cc : ByteArray} {ret : Option FieldType} {pc : Nat} {ls : List (Option Value)} {st : List Value} {S : xS} {Q : Option Value → xS → Prop} {sh : List (xK × Nat)} {I : Nat → Nat → Int32} {J : Nat → Nat → Int64} {P : Nat → Nat → Nat}
theorem r_step {pc1 : Nat} {ls1 : List (Option Value)} {s1 : List Value} {S1 : xS} (h : xSt call ex X y cc pc ls st S pc1 ls1 s1 S1) (k : xR call ex X y cc ret pc1 ls1 s1 S1 Q) : xR call ex X y cc ret pc ls st S Q := by
  obtain ⟨n, r, S', k, hq⟩ := k
  exact ⟨n + 1, r, S', ⟨_, _, _, _, h, k⟩, hq⟩
theorem r_iconst {n : Int} {v : Int32} (hd : decode cc pc = .ok (.iconst n, 1)) (hv : Int32.ofInt n = v) (k : xR call ex X y cc ret (pc + 1) ls (.int v :: st) S Q) : xR call ex X y cc ret pc ls st S Q := r_step ⟨_, _, hd, rfl, ⟨rfl, rfl, rfl⟩, by rw [hv]⟩ k
theorem r_bipush {n : Int} {v : Int32} (hd : decode cc pc = .ok (.bipush n, 2)) (hv : (Int8.ofInt n).toInt32 = v) (k : xR call ex X y cc ret (pc + 2) ls (.int v :: st) S Q) : xR call ex X y cc ret pc ls st S Q := r_step ⟨_, _, hd, rfl, ⟨rfl, rfl, rfl⟩, by rw [hv]⟩ k
theorem r_sipush {n : Int} {v : Int32} (hd : decode cc pc = .ok (.sipush n, 3)) (hv : (Int16.ofInt n).toInt32 = v) (k : xR call ex X y cc ret (pc + 3) ls (.int v :: st) S Q) : xR call ex X y cc ret pc ls st S Q := r_step ⟨_, _, hd, rfl, ⟨rfl, rfl, rfl⟩, by rw [hv]⟩ k
theorem r_lconst {n : Fin 2} {v : Int64} (hd : decode cc pc = .ok (.lconst n, 1)) (hv : Int64.ofNat (n : Nat) = v) (k : xR call ex X y cc ret (pc + 1) ls (.long v :: st) S Q) : xR call ex X y cc ret pc ls st S Q := r_step ⟨_, _, hd, rfl, ⟨rfl, rfl, rfl⟩, by rw [hv]⟩ k
theorem r_ldc {idx : Nat} {v : Int32} (hd : decode cc pc = .ok (.ldc idx, 2)) (hv : Cond.constant y.cls idx v ∈ xgw) (k : xR call ex X y cc ret (pc + 2) ls (.int v :: st) S Q) : xR call ex X y cc ret pc ls st S Q := r_step ⟨_, _, hd, rfl, ⟨rfl, rfl, rfl⟩, _, hv, rfl⟩ k
theorem r_ldc_w {idx : Nat} {v : Int32} (hd : decode cc pc = .ok (.ldc_w idx, 3)) (hv : Cond.constant y.cls idx v ∈ xgw) (k : xR call ex X y cc ret (pc + 3) ls (.int v :: st) S Q) : xR call ex X y cc ret pc ls st S Q := r_step ⟨_, _, hd, rfl, ⟨rfl, rfl, rfl⟩, _, hv, rfl⟩ k
theorem r_ldc2_w {idx : Nat} {v : Int64} (hd : decode cc pc = .ok (.ldc2_w idx, 3)) (hv : Cond.constantLong y.cls idx v ∈ xgw) (k : xR call ex X y cc ret (pc + 3) ls (.long v :: st) S Q) : xR call ex X y cc ret pc ls st S Q := r_step ⟨_, _, hd, rfl, ⟨rfl, rfl, rfl⟩, _, hv, rfl⟩ k
theorem r_iload {i : Nat} {x : Int32} (hd : decode cc pc = .ok (.iload i, 2)) (hl : ls[i]? = some (some (.int x))) (k : xR call ex X y cc ret (pc + 2) ls (.int x :: st) S Q) : xR call ex X y cc ret pc ls st S Q := r_step ⟨_, _, hd, rfl, ⟨rfl, rfl, rfl⟩, _, hl, rfl⟩ k
theorem r_iload_n {i : Fin 4} {x : Int32} (hd : decode cc pc = .ok (.iload_n i, 1)) (hl : ls[(i : Nat)]? = some (some (.int x))) (k : xR call ex X y cc ret (pc + 1) ls (.int x :: st) S Q) : xR call ex X y cc ret pc ls st S Q := r_step ⟨_, _, hd, rfl, ⟨rfl, rfl, rfl⟩, _, hl, rfl⟩ k
theorem r_lload {i : Nat} {x : Int64} (hd : decode cc pc = .ok (.lload i, 2)) (hl : ls[i]? = some (some (.long x))) (k : xR call ex X y cc ret (pc + 2) ls (.long x :: st) S Q) : xR call ex X y cc ret pc ls st S Q := r_step ⟨_, _, hd, rfl, ⟨rfl, rfl, rfl⟩, _, hl, rfl⟩ k
theorem r_lload_n {i : Fin 4} {x : Int64} (hd : decode cc pc = .ok (.lload_n i, 1)) (hl : ls[(i : Nat)]? = some (some (.long x))) (k : xR call ex X y cc ret (pc + 1) ls (.long x :: st) S Q) : xR call ex X y cc ret pc ls st S Q := r_step ⟨_, _, hd, rfl, ⟨rfl, rfl, rfl⟩, _, hl, rfl⟩ k
theorem r_aload {i : Nat} {x : Nat} (hd : decode cc pc = .ok (.aload i, 2)) (hl : ls[i]? = some (some (.ref x))) (k : xR call ex X y cc ret (pc + 2) ls (.ref x :: st) S Q) : xR call ex X y cc ret pc ls st S Q := r_step ⟨_, _, hd, rfl, ⟨rfl, rfl, rfl⟩, _, ⟨x, Or.inl rfl⟩, hl, rfl⟩ k
theorem r_aload_n {i : Fin 4} {x : Nat} (hd : decode cc pc = .ok (.aload_n i, 1)) (hl : ls[(i : Nat)]? = some (some (.ref x))) (k : xR call ex X y cc ret (pc + 1) ls (.ref x :: st) S Q) : xR call ex X y cc ret pc ls st S Q := r_step ⟨_, _, hd, rfl, ⟨rfl, rfl, rfl⟩, _, ⟨x, Or.inl rfl⟩, hl, rfl⟩ k
theorem r_aloadX_n {i : Fin 4} {x : Nat} (hd : decode cc pc = .ok (.aload_n i, 1)) (hl : ls[(i : Nat)]? = some (some (.retAddr x))) (k : xR call ex X y cc ret (pc + 1) ls (.retAddr x :: st) S Q) : xR call ex X y cc ret pc ls st S Q := r_step ⟨_, _, hd, rfl, ⟨rfl, rfl, rfl⟩, _, ⟨x, Or.inr rfl⟩, hl, rfl⟩ k
theorem r_istore0 {a0 : Option Value} {x : Int32} (hd : decode cc pc = .ok (.istore 0, 2))  (k : xR call ex X y cc ret (pc + 2) (some (.int x) :: ls) st S Q) : xR call ex X y cc ret pc (a0 :: ls) (.int x :: st) S Q := r_step ⟨_, _, hd, rfl, rfl, rfl, (by show 0 < List.length _; simp), x, rfl, rfl⟩ k
theorem r_istore_n0 {a0 : Option Value} {x : Int32} (hd : decode cc pc = .ok (.istore_n 0, 1))  (k : xR call ex X y cc ret (pc + 1) (some (.int x) :: ls) st S Q) : xR call ex X y cc ret pc (a0 :: ls) (.int x :: st) S Q := r_step ⟨_, _, hd, rfl, rfl, rfl, (by show 0 < List.length _; simp), x, rfl, rfl⟩ k
theorem r_astore0 {a0 : Option Value} {x : Nat} (hd : decode cc pc = .ok (.astore 0, 2))  (k : xR call ex X y cc ret (pc + 2) (some (.ref x) :: ls) st S Q) : xR call ex X y cc ret pc (a0 :: ls) (.ref x :: st) S Q := r_step ⟨_, _, hd, rfl, rfl, rfl, (by show 0 < List.length _; simp), x, rfl, rfl⟩ k
theorem r_astore_n0 {a0 : Option Value} {x : Nat} (hd : decode cc pc = .ok (.astore_n 0, 1))  (k : xR call ex X y cc ret (pc + 1) (some (.ref x) :: ls) st S Q) : xR call ex X y cc ret pc (a0 :: ls) (.ref x :: st) S Q := r_step ⟨_, _, hd, rfl, rfl, rfl, (by show 0 < List.length _; simp), x, rfl, rfl⟩ k
theorem r_lstore0 {a0 b0 : Option Value} {x : Int64} (hd : decode cc pc = .ok (.lstore 0, 2))  (k : xR call ex X y cc ret (pc + 2) (some (.long x) :: none :: ls) st S Q) : xR call ex X y cc ret pc (a0 :: b0 :: ls) (.long x :: st) S Q := r_step ⟨_, _, hd, rfl, rfl, rfl, (by show 1 < List.length _; simp), x, rfl, rfl⟩ k
theorem r_lstore_n0 {a0 b0 : Option Value} {x : Int64} (hd : decode cc pc = .ok (.lstore_n 0, 1))  (k : xR call ex X y cc ret (pc + 1) (some (.long x) :: none :: ls) st S Q) : xR call ex X y cc ret pc (a0 :: b0 :: ls) (.long x :: st) S Q := r_step ⟨_, _, hd, rfl, rfl, rfl, (by show 1 < List.length _; simp), x, rfl, rfl⟩ k
theorem r_iinc0  {x v : Int32} {n : Int} (hd : decode cc pc = .ok (.iinc 0 n, 3)) (hv : Int32.ofInt n = v)  (k : xR call ex X y cc ret (pc + 3) (some (.int (x + v)) :: ls) st S Q) : xR call ex X y cc ret pc (some (.int x) :: ls) st S Q := r_step ⟨_, _, hd, rfl, rfl, rfl, rfl, x, rfl, by rw [hv]; exact rfl⟩ k
theorem r_istore1 {a0 a1 : Option Value} {x : Int32} (hd : decode cc pc = .ok (.istore 1, 2)) (hw : xw1 a0 = true) (k : xR call ex X y cc ret (pc + 2) (a0 :: some (.int x) :: ls) st S Q) : xR call ex X y cc ret pc (a0 :: a1 :: ls) (.int x :: st) S Q := r_step ⟨_, _, hd, rfl, rfl, rfl, (by show 1 < List.length _; simp), x, rfl, (by
  show _ = xset (a0 :: a1 :: ls) 1 (.int x)
  cases a0 with
  | none => rfl
  | some v =>
    have hv : ¬ v.category = 2 := by simpa [xw1] using hw
    simp [xset, xset2, xclr, hv])⟩ k
theorem r_istore_n1 {a0 a1 : Option Value} {x : Int32} (hd : decode cc pc = .ok (.istore_n 1, 1)) (hw : xw1 a0 = true) (k : xR call ex X y cc ret (pc + 1) (a0 :: some (.int x) :: ls) st S Q) : xR call ex X y cc ret pc (a0 :: a1 :: ls) (.int x :: st) S Q := r_step ⟨_, _, hd, rfl, rfl, rfl, (by show 1 < List.length _; simp), x, rfl, (by
  show _ = xset (a0 :: a1 :: ls) 1 (.int x)
  cases a0 with
  | none => rfl
  | some v =>
    have hv : ¬ v.category = 2 := by simpa [xw1] using hw
    simp [xset, xset2, xclr, hv])⟩ k
theorem r_astore1 {a0 a1 : Option Value} {x : Nat} (hd : decode cc pc = .ok (.astore 1, 2)) (hw : xw1 a0 = true) (k : xR call ex X y cc ret (pc + 2) (a0 :: some (.ref x) :: ls) st S Q) : xR call ex X y cc ret pc (a0 :: a1 :: ls) (.ref x :: st) S Q := r_step ⟨_, _, hd, rfl, rfl, rfl, (by show 1 < List.length _; simp), x, rfl, (by
  show _ = xset (a0 :: a1 :: ls) 1 (.ref x)
  cases a0 with
  | none => rfl
  | some v =>
    have hv : ¬ v.category = 2 := by simpa [xw1] using hw
    simp [xset, xset2, xclr, hv])⟩ k
theorem r_astore_n1 {a0 a1 : Option Value} {x : Nat} (hd : decode cc pc = .ok (.astore_n 1, 1)) (hw : xw1 a0 = true) (k : xR call ex X y cc ret (pc + 1) (a0 :: some (.ref x) :: ls) st S Q) : xR call ex X y cc ret pc (a0 :: a1 :: ls) (.ref x :: st) S Q := r_step ⟨_, _, hd, rfl, rfl, rfl, (by show 1 < List.length _; simp), x, rfl, (by
  show _ = xset (a0 :: a1 :: ls) 1 (.ref x)
  cases a0 with
  | none => rfl
  | some v =>
    have hv : ¬ v.category = 2 := by simpa [xw1] using hw
    simp [xset, xset2, xclr, hv])⟩ k
theorem r_lstore1 {a0 a1 b0 : Option Value} {x : Int64} (hd : decode cc pc = .ok (.lstore 1, 2)) (hw : xw1 a0 = true) (k : xR call ex X y cc ret (pc + 2) (a0 :: some (.long x) :: none :: ls) st S Q) : xR call ex X y cc ret pc (a0 :: a1 :: b0 :: ls) (.long x :: st) S Q := r_step ⟨_, _, hd, rfl, rfl, rfl, (by show 2 < List.length _; simp), x, rfl, (by
  show _ = xset2 (a0 :: a1 :: b0 :: ls) 1 (.long x)
  cases a0 with
  | none => rfl
  | some v =>
    have hv : ¬ v.category = 2 := by simpa [xw1] using hw
    simp [xset, xset2, xclr, hv])⟩ k
theorem r_lstore_n1 {a0 a1 b0 : Option Value} {x : Int64} (hd : decode cc pc = .ok (.lstore_n 1, 1)) (hw : xw1 a0 = true) (k : xR call ex X y cc ret (pc + 1) (a0 :: some (.long x) :: none :: ls) st S Q) : xR call ex X y cc ret pc (a0 :: a1 :: b0 :: ls) (.long x :: st) S Q := r_step ⟨_, _, hd, rfl, rfl, rfl, (by show 2 < List.length _; simp), x, rfl, (by
  show _ = xset2 (a0 :: a1 :: b0 :: ls) 1 (.long x)
  cases a0 with
  | none => rfl
  | some v =>
    have hv : ¬ v.category = 2 := by simpa [xw1] using hw
    simp [xset, xset2, xclr, hv])⟩ k
theorem r_iinc1 {a0 : Option Value} {x v : Int32} {n : Int} (hd : decode cc pc = .ok (.iinc 1 n, 3)) (hv : Int32.ofInt n = v) (hw : xw1 a0 = true) (k : xR call ex X y cc ret (pc + 3) (a0 :: some (.int (x + v)) :: ls) st S Q) : xR call ex X y cc ret pc (a0 :: some (.int x) :: ls) st S Q := r_step ⟨_, _, hd, rfl, rfl, rfl, rfl, x, rfl, by rw [hv]; exact (by
  show _ = xset (a0 :: some (.int x) :: ls) 1 (.int (x + v))
  cases a0 with
  | none => rfl
  | some v =>
    have hv : ¬ v.category = 2 := by simpa [xw1] using hw
    simp [xset, xset2, xclr, hv])⟩ k
theorem r_istore2 {a0 a1 a2 : Option Value} {x : Int32} (hd : decode cc pc = .ok (.istore 2, 2)) (hw : xw1 a1 = true) (k : xR call ex X y cc ret (pc + 2) (a0 :: a1 :: some (.int x) :: ls) st S Q) : xR call ex X y cc ret pc (a0 :: a1 :: a2 :: ls) (.int x :: st) S Q := r_step ⟨_, _, hd, rfl, rfl, rfl, (by show 2 < List.length _; simp), x, rfl, (by
  show _ = xset (a0 :: a1 :: a2 :: ls) 2 (.int x)
  cases a1 with
  | none => rfl
  | some v =>
    have hv : ¬ v.category = 2 := by simpa [xw1] using hw
    simp [xset, xset2, xclr, hv])⟩ k
theorem r_istore_n2 {a0 a1 a2 : Option Value} {x : Int32} (hd : decode cc pc = .ok (.istore_n 2, 1)) (hw : xw1 a1 = true) (k : xR call ex X y cc ret (pc + 1) (a0 :: a1 :: some (.int x) :: ls) st S Q) : xR call ex X y cc ret pc (a0 :: a1 :: a2 :: ls) (.int x :: st) S Q := r_step ⟨_, _, hd, rfl, rfl, rfl, (by show 2 < List.length _; simp), x, rfl, (by
  show _ = xset (a0 :: a1 :: a2 :: ls) 2 (.int x)
  cases a1 with
  | none => rfl
  | some v =>
    have hv : ¬ v.category = 2 := by simpa [xw1] using hw
    simp [xset, xset2, xclr, hv])⟩ k
theorem r_astore2 {a0 a1 a2 : Option Value} {x : Nat} (hd : decode cc pc = .ok (.astore 2, 2)) (hw : xw1 a1 = true) (k : xR call ex X y cc ret (pc + 2) (a0 :: a1 :: some (.ref x) :: ls) st S Q) : xR call ex X y cc ret pc (a0 :: a1 :: a2 :: ls) (.ref x :: st) S Q := r_step ⟨_, _, hd, rfl, rfl, rfl, (by show 2 < List.length _; simp), x, rfl, (by
  show _ = xset (a0 :: a1 :: a2 :: ls) 2 (.ref x)
  cases a1 with
  | none => rfl
  | some v =>
    have hv : ¬ v.category = 2 := by simpa [xw1] using hw
    simp [xset, xset2, xclr, hv])⟩ k
theorem r_astore_n2 {a0 a1 a2 : Option Value} {x : Nat} (hd : decode cc pc = .ok (.astore_n 2, 1)) (hw : xw1 a1 = true) (k : xR call ex X y cc ret (pc + 1) (a0 :: a1 :: some (.ref x) :: ls) st S Q) : xR call ex X y cc ret pc (a0 :: a1 :: a2 :: ls) (.ref x :: st) S Q := r_step ⟨_, _, hd, rfl, rfl, rfl, (by show 2 < List.length _; simp), x, rfl, (by
  show _ = xset (a0 :: a1 :: a2 :: ls) 2 (.ref x)
  cases a1 with
  | none => rfl
  | some v =>
    have hv : ¬ v.category = 2 := by simpa [xw1] using hw
    simp [xset, xset2, xclr, hv])⟩ k
theorem r_lstore2 {a0 a1 a2 b0 : Option Value} {x : Int64} (hd : decode cc pc = .ok (.lstore 2, 2)) (hw : xw1 a1 = true) (k : xR call ex X y cc ret (pc + 2) (a0 :: a1 :: some (.long x) :: none :: ls) st S Q) : xR call ex X y cc ret pc (a0 :: a1 :: a2 :: b0 :: ls) (.long x :: st) S Q := r_step ⟨_, _, hd, rfl, rfl, rfl, (by show 3 < List.length _; simp), x, rfl, (by
  show _ = xset2 (a0 :: a1 :: a2 :: b0 :: ls) 2 (.long x)
  cases a1 with
  | none => rfl
  | some v =>
    have hv : ¬ v.category = 2 := by simpa [xw1] using hw
    simp [xset, xset2, xclr, hv])⟩ k
theorem r_lstore_n2 {a0 a1 a2 b0 : Option Value} {x : Int64} (hd : decode cc pc = .ok (.lstore_n 2, 1)) (hw : xw1 a1 = true) (k : xR call ex X y cc ret (pc + 1) (a0 :: a1 :: some (.long x) :: none :: ls) st S Q) : xR call ex X y cc ret pc (a0 :: a1 :: a2 :: b0 :: ls) (.long x :: st) S Q := r_step ⟨_, _, hd, rfl, rfl, rfl, (by show 3 < List.length _; simp), x, rfl, (by
  show _ = xset2 (a0 :: a1 :: a2 :: b0 :: ls) 2 (.long x)
  cases a1 with
  | none => rfl
  | some v =>
    have hv : ¬ v.category = 2 := by simpa [xw1] using hw
    simp [xset, xset2, xclr, hv])⟩ k
theorem r_iinc2 {a0 a1 : Option Value} {x v : Int32} {n : Int} (hd : decode cc pc = .ok (.iinc 2 n, 3)) (hv : Int32.ofInt n = v) (hw : xw1 a1 = true) (k : xR call ex X y cc ret (pc + 3) (a0 :: a1 :: some (.int (x + v)) :: ls) st S Q) : xR call ex X y cc ret pc (a0 :: a1 :: some (.int x) :: ls) st S Q := r_step ⟨_, _, hd, rfl, rfl, rfl, rfl, x, rfl, by rw [hv]; exact (by
  show _ = xset (a0 :: a1 :: some (.int x) :: ls) 2 (.int (x + v))
  cases a1 with
  | none => rfl
  | some v =>
    have hv : ¬ v.category = 2 := by simpa [xw1] using hw
    simp [xset, xset2, xclr, hv])⟩ k
theorem r_istore3 {a0 a1 a2 a3 : Option Value} {x : Int32} (hd : decode cc pc = .ok (.istore 3, 2)) (hw : xw1 a2 = true) (k : xR call ex X y cc ret (pc + 2) (a0 :: a1 :: a2 :: some (.int x) :: ls) st S Q) : xR call ex X y cc ret pc (a0 :: a1 :: a2 :: a3 :: ls) (.int x :: st) S Q := r_step ⟨_, _, hd, rfl, rfl, rfl, (by show 3 < List.length _; simp), x, rfl, (by
  show _ = xset (a0 :: a1 :: a2 :: a3 :: ls) 3 (.int x)
  cases a2 with
  | none => rfl
  | some v =>
    have hv : ¬ v.category = 2 := by simpa [xw1] using hw
    simp [xset, xset2, xclr, hv])⟩ k
theorem r_istore_n3 {a0 a1 a2 a3 : Option Value} {x : Int32} (hd : decode cc pc = .ok (.istore_n 3, 1)) (hw : xw1 a2 = true) (k : xR call ex X y cc ret (pc + 1) (a0 :: a1 :: a2 :: some (.int x) :: ls) st S Q) : xR call ex X y cc ret pc (a0 :: a1 :: a2 :: a3 :: ls) (.int x :: st) S Q := r_step ⟨_, _, hd, rfl, rfl, rfl, (by show 3 < List.length _; simp), x, rfl, (by
  show _ = xset (a0 :: a1 :: a2 :: a3 :: ls) 3 (.int x)
  cases a2 with
  | none => rfl
  | some v =>
    have hv : ¬ v.category = 2 := by simpa [xw1] using hw
    simp [xset, xset2, xclr, hv])⟩ k
theorem r_astore3 {a0 a1 a2 a3 : Option Value} {x : Nat} (hd : decode cc pc = .ok (.astore 3, 2)) (hw : xw1 a2 = true) (k : xR call ex X y cc ret (pc + 2) (a0 :: a1 :: a2 :: some (.ref x) :: ls) st S Q) : xR call ex X y cc ret pc (a0 :: a1 :: a2 :: a3 :: ls) (.ref x :: st) S Q := r_step ⟨_, _, hd, rfl, rfl, rfl, (by show 3 < List.length _; simp), x, rfl, (by
  show _ = xset (a0 :: a1 :: a2 :: a3 :: ls) 3 (.ref x)
  cases a2 with
  | none => rfl
  | some v =>
    have hv : ¬ v.category = 2 := by simpa [xw1] using hw
    simp [xset, xset2, xclr, hv])⟩ k
theorem r_astore_n3 {a0 a1 a2 a3 : Option Value} {x : Nat} (hd : decode cc pc = .ok (.astore_n 3, 1)) (hw : xw1 a2 = true) (k : xR call ex X y cc ret (pc + 1) (a0 :: a1 :: a2 :: some (.ref x) :: ls) st S Q) : xR call ex X y cc ret pc (a0 :: a1 :: a2 :: a3 :: ls) (.ref x :: st) S Q := r_step ⟨_, _, hd, rfl, rfl, rfl, (by show 3 < List.length _; simp), x, rfl, (by
  show _ = xset (a0 :: a1 :: a2 :: a3 :: ls) 3 (.ref x)
  cases a2 with
  | none => rfl
  | some v =>
    have hv : ¬ v.category = 2 := by simpa [xw1] using hw
    simp [xset, xset2, xclr, hv])⟩ k
theorem r_lstore3 {a0 a1 a2 a3 b0 : Option Value} {x : Int64} (hd : decode cc pc = .ok (.lstore 3, 2)) (hw : xw1 a2 = true) (k : xR call ex X y cc ret (pc + 2) (a0 :: a1 :: a2 :: some (.long x) :: none :: ls) st S Q) : xR call ex X y cc ret pc (a0 :: a1 :: a2 :: a3 :: b0 :: ls) (.long x :: st) S Q := r_step ⟨_, _, hd, rfl, rfl, rfl, (by show 4 < List.length _; simp), x, rfl, (by
  show _ = xset2 (a0 :: a1 :: a2 :: a3 :: b0 :: ls) 3 (.long x)
  cases a2 with
  | none => rfl
  | some v =>
    have hv : ¬ v.category = 2 := by simpa [xw1] using hw
    simp [xset, xset2, xclr, hv])⟩ k
theorem r_lstore_n3 {a0 a1 a2 a3 b0 : Option Value} {x : Int64} (hd : decode cc pc = .ok (.lstore_n 3, 1)) (hw : xw1 a2 = true) (k : xR call ex X y cc ret (pc + 1) (a0 :: a1 :: a2 :: some (.long x) :: none :: ls) st S Q) : xR call ex X y cc ret pc (a0 :: a1 :: a2 :: a3 :: b0 :: ls) (.long x :: st) S Q := r_step ⟨_, _, hd, rfl, rfl, rfl, (by show 4 < List.length _; simp), x, rfl, (by
  show _ = xset2 (a0 :: a1 :: a2 :: a3 :: b0 :: ls) 3 (.long x)
  cases a2 with
  | none => rfl
  | some v =>
    have hv : ¬ v.category = 2 := by simpa [xw1] using hw
    simp [xset, xset2, xclr, hv])⟩ k
theorem r_iinc3 {a0 a1 a2 : Option Value} {x v : Int32} {n : Int} (hd : decode cc pc = .ok (.iinc 3 n, 3)) (hv : Int32.ofInt n = v) (hw : xw1 a2 = true) (k : xR call ex X y cc ret (pc + 3) (a0 :: a1 :: a2 :: some (.int (x + v)) :: ls) st S Q) : xR call ex X y cc ret pc (a0 :: a1 :: a2 :: some (.int x) :: ls) st S Q := r_step ⟨_, _, hd, rfl, rfl, rfl, rfl, x, rfl, by rw [hv]; exact (by
  show _ = xset (a0 :: a1 :: a2 :: some (.int x) :: ls) 3 (.int (x + v))
  cases a2 with
  | none => rfl
  | some v =>
    have hv : ¬ v.category = 2 := by simpa [xw1] using hw
    simp [xset, xset2, xclr, hv])⟩ k
theorem r_istore4 {a0 a1 a2 a3 a4 : Option Value} {x : Int32} (hd : decode cc pc = .ok (.istore 4, 2)) (hw : xw1 a3 = true) (k : xR call ex X y cc ret (pc + 2) (a0 :: a1 :: a2 :: a3 :: some (.int x) :: ls) st S Q) : xR call ex X y cc ret pc (a0 :: a1 :: a2 :: a3 :: a4 :: ls) (.int x :: st) S Q := r_step ⟨_, _, hd, rfl, rfl, rfl, (by show 4 < List.length _; simp), x, rfl, (by
  show _ = xset (a0 :: a1 :: a2 :: a3 :: a4 :: ls) 4 (.int x)
  cases a3 with
  | none => rfl
  | some v =>
    have hv : ¬ v.category = 2 := by simpa [xw1] using hw
    simp [xset, xset2, xclr, hv])⟩ k
theorem r_astore4 {a0 a1 a2 a3 a4 : Option Value} {x : Nat} (hd : decode cc pc = .ok (.astore 4, 2)) (hw : xw1 a3 = true) (k : xR call ex X y cc ret (pc + 2) (a0 :: a1 :: a2 :: a3 :: some (.ref x) :: ls) st S Q) : xR call ex X y cc ret pc (a0 :: a1 :: a2 :: a3 :: a4 :: ls) (.ref x :: st) S Q := r_step ⟨_, _, hd, rfl, rfl, rfl, (by show 4 < List.length _; simp), x, rfl, (by
  show _ = xset (a0 :: a1 :: a2 :: a3 :: a4 :: ls) 4 (.ref x)
  cases a3 with
  | none => rfl
  | some v =>
    have hv : ¬ v.category = 2 := by simpa [xw1] using hw
    simp [xset, xset2, xclr, hv])⟩ k
theorem r_lstore4 {a0 a1 a2 a3 a4 b0 : Option Value} {x : Int64} (hd : decode cc pc = .ok (.lstore 4, 2)) (hw : xw1 a3 = true) (k : xR call ex X y cc ret (pc + 2) (a0 :: a1 :: a2 :: a3 :: some (.long x) :: none :: ls) st S Q) : xR call ex X y cc ret pc (a0 :: a1 :: a2 :: a3 :: a4 :: b0 :: ls) (.long x :: st) S Q := r_step ⟨_, _, hd, rfl, rfl, rfl, (by show 5 < List.length _; simp), x, rfl, (by
  show _ = xset2 (a0 :: a1 :: a2 :: a3 :: a4 :: b0 :: ls) 4 (.long x)
  cases a3 with
  | none => rfl
  | some v =>
    have hv : ¬ v.category = 2 := by simpa [xw1] using hw
    simp [xset, xset2, xclr, hv])⟩ k
theorem r_iinc4 {a0 a1 a2 a3 : Option Value} {x v : Int32} {n : Int} (hd : decode cc pc = .ok (.iinc 4 n, 3)) (hv : Int32.ofInt n = v) (hw : xw1 a3 = true) (k : xR call ex X y cc ret (pc + 3) (a0 :: a1 :: a2 :: a3 :: some (.int (x + v)) :: ls) st S Q) : xR call ex X y cc ret pc (a0 :: a1 :: a2 :: a3 :: some (.int x) :: ls) st S Q := r_step ⟨_, _, hd, rfl, rfl, rfl, rfl, x, rfl, by rw [hv]; exact (by
  show _ = xset (a0 :: a1 :: a2 :: a3 :: some (.int x) :: ls) 4 (.int (x + v))
  cases a3 with
  | none => rfl
  | some v =>
    have hv : ¬ v.category = 2 := by simpa [xw1] using hw
    simp [xset, xset2, xclr, hv])⟩ k
theorem r_istore5 {a0 a1 a2 a3 a4 a5 : Option Value} {x : Int32} (hd : decode cc pc = .ok (.istore 5, 2)) (hw : xw1 a4 = true) (k : xR call ex X y cc ret (pc + 2) (a0 :: a1 :: a2 :: a3 :: a4 :: some (.int x) :: ls) st S Q) : xR call ex X y cc ret pc (a0 :: a1 :: a2 :: a3 :: a4 :: a5 :: ls) (.int x :: st) S Q := r_step ⟨_, _, hd, rfl, rfl, rfl, (by show 5 < List.length _; simp), x, rfl, (by
  show _ = xset (a0 :: a1 :: a2 :: a3 :: a4 :: a5 :: ls) 5 (.int x)
  cases a4 with
  | none => rfl
  | some v =>
    have hv : ¬ v.category = 2 := by simpa [xw1] using hw
    simp [xset, xset2, xclr, hv])⟩ k
theorem r_astore5 {a0 a1 a2 a3 a4 a5 : Option Value} {x : Nat} (hd : decode cc pc = .ok (.astore 5, 2)) (hw : xw1 a4 = true) (k : xR call ex X y cc ret (pc + 2) (a0 :: a1 :: a2 :: a3 :: a4 :: some (.ref x) :: ls) st S Q) : xR call ex X y cc ret pc (a0 :: a1 :: a2 :: a3 :: a4 :: a5 :: ls) (.ref x :: st) S Q := r_step ⟨_, _, hd, rfl, rfl, rfl, (by show 5 < List.length _; simp), x, rfl, (by
  show _ = xset (a0 :: a1 :: a2 :: a3 :: a4 :: a5 :: ls) 5 (.ref x)
  cases a4 with
  | none => rfl
  | some v =>
    have hv : ¬ v.category = 2 := by simpa [xw1] using hw
    simp [xset, xset2, xclr, hv])⟩ k
theorem r_lstore5 {a0 a1 a2 a3 a4 a5 b0 : Option Value} {x : Int64} (hd : decode cc pc = .ok (.lstore 5, 2)) (hw : xw1 a4 = true) (k : xR call ex X y cc ret (pc + 2) (a0 :: a1 :: a2 :: a3 :: a4 :: some (.long x) :: none :: ls) st S Q) : xR call ex X y cc ret pc (a0 :: a1 :: a2 :: a3 :: a4 :: a5 :: b0 :: ls) (.long x :: st) S Q := r_step ⟨_, _, hd, rfl, rfl, rfl, (by show 6 < List.length _; simp), x, rfl, (by
  show _ = xset2 (a0 :: a1 :: a2 :: a3 :: a4 :: a5 :: b0 :: ls) 5 (.long x)
  cases a4 with
  | none => rfl
  | some v =>
    have hv : ¬ v.category = 2 := by simpa [xw1] using hw
    simp [xset, xset2, xclr, hv])⟩ k
theorem r_iinc5 {a0 a1 a2 a3 a4 : Option Value} {x v : Int32} {n : Int} (hd : decode cc pc = .ok (.iinc 5 n, 3)) (hv : Int32.ofInt n = v) (hw : xw1 a4 = true) (k : xR call ex X y cc ret (pc + 3) (a0 :: a1 :: a2 :: a3 :: a4 :: some (.int (x + v)) :: ls) st S Q) : xR call ex X y cc ret pc (a0 :: a1 :: a2 :: a3 :: a4 :: some (.int x) :: ls) st S Q := r_step ⟨_, _, hd, rfl, rfl, rfl, rfl, x, rfl, by rw [hv]; exact (by
  show _ = xset (a0 :: a1 :: a2 :: a3 :: a4 :: some (.int x) :: ls) 5 (.int (x + v))
  cases a4 with
  | none => rfl
  | some v =>
    have hv : ¬ v.category = 2 := by simpa [xw1] using hw
    simp [xset, xset2, xclr, hv])⟩ k
theorem r_istore6 {a0 a1 a2 a3 a4 a5 a6 : Option Value} {x : Int32} (hd : decode cc pc = .ok (.istore 6, 2)) (hw : xw1 a5 = true) (k : xR call ex X y cc ret (pc + 2) (a0 :: a1 :: a2 :: a3 :: a4 :: a5 :: some (.int x) :: ls) st S Q) : xR call ex X y cc ret pc (a0 :: a1 :: a2 :: a3 :: a4 :: a5 :: a6 :: ls) (.int x :: st) S Q := r_step ⟨_, _, hd, rfl, rfl, rfl, (by show 6 < List.length _; simp), x, rfl, (by
  show _ = xset (a0 :: a1 :: a2 :: a3 :: a4 :: a5 :: a6 :: ls) 6 (.int x)
  cases a5 with
  | none => rfl
  | some v =>
    have hv : ¬ v.category = 2 := by simpa [xw1] using hw
    simp [xset, xset2, xclr, hv])⟩ k
theorem r_astore6 {a0 a1 a2 a3 a4 a5 a6 : Option Value} {x : Nat} (hd : decode cc pc = .ok (.astore 6, 2)) (hw : xw1 a5 = true) (k : xR call ex X y cc ret (pc + 2) (a0 :: a1 :: a2 :: a3 :: a4 :: a5 :: some (.ref x) :: ls) st S Q) : xR call ex X y cc ret pc (a0 :: a1 :: a2 :: a3 :: a4 :: a5 :: a6 :: ls) (.ref x :: st) S Q := r_step ⟨_, _, hd, rfl, rfl, rfl, (by show 6 < List.length _; simp), x, rfl, (by
  show _ = xset (a0 :: a1 :: a2 :: a3 :: a4 :: a5 :: a6 :: ls) 6 (.ref x)
  cases a5 with
  | none => rfl
  | some v =>
    have hv : ¬ v.category = 2 := by simpa [xw1] using hw
    simp [xset, xset2, xclr, hv])⟩ k
theorem r_lstore6 {a0 a1 a2 a3 a4 a5 a6 b0 : Option Value} {x : Int64} (hd : decode cc pc = .ok (.lstore 6, 2)) (hw : xw1 a5 = true) (k : xR call ex X y cc ret (pc + 2) (a0 :: a1 :: a2 :: a3 :: a4 :: a5 :: some (.long x) :: none :: ls) st S Q) : xR call ex X y cc ret pc (a0 :: a1 :: a2 :: a3 :: a4 :: a5 :: a6 :: b0 :: ls) (.long x :: st) S Q := r_step ⟨_, _, hd, rfl, rfl, rfl, (by show 7 < List.length _; simp), x, rfl, (by
  show _ = xset2 (a0 :: a1 :: a2 :: a3 :: a4 :: a5 :: a6 :: b0 :: ls) 6 (.long x)
  cases a5 with
  | none => rfl
  | some v =>
    have hv : ¬ v.category = 2 := by simpa [xw1] using hw
    simp [xset, xset2, xclr, hv])⟩ k
theorem r_iinc6 {a0 a1 a2 a3 a4 a5 : Option Value} {x v : Int32} {n : Int} (hd : decode cc pc = .ok (.iinc 6 n, 3)) (hv : Int32.ofInt n = v) (hw : xw1 a5 = true) (k : xR call ex X y cc ret (pc + 3) (a0 :: a1 :: a2 :: a3 :: a4 :: a5 :: some (.int (x + v)) :: ls) st S Q) : xR call ex X y cc ret pc (a0 :: a1 :: a2 :: a3 :: a4 :: a5 :: some (.int x) :: ls) st S Q := r_step ⟨_, _, hd, rfl, rfl, rfl, rfl, x, rfl, by rw [hv]; exact (by
  show _ = xset (a0 :: a1 :: a2 :: a3 :: a4 :: a5 :: some (.int x) :: ls) 6 (.int (x + v))
  cases a5 with
  | none => rfl
  | some v =>
    have hv : ¬ v.category = 2 := by simpa [xw1] using hw
    simp [xset, xset2, xclr, hv])⟩ k
theorem r_istore7 {a0 a1 a2 a3 a4 a5 a6 a7 : Option Value} {x : Int32} (hd : decode cc pc = .ok (.istore 7, 2)) (hw : xw1 a6 = true) (k : xR call ex X y cc ret (pc + 2) (a0 :: a1 :: a2 :: a3 :: a4 :: a5 :: a6 :: some (.int x) :: ls) st S Q) : xR call ex X y cc ret pc (a0 :: a1 :: a2 :: a3 :: a4 :: a5 :: a6 :: a7 :: ls) (.int x :: st) S Q := r_step ⟨_, _, hd, rfl, rfl, rfl, (by show 7 < List.length _; simp), x, rfl, (by
  show _ = xset (a0 :: a1 :: a2 :: a3 :: a4 :: a5 :: a6 :: a7 :: ls) 7 (.int x)
  cases a6 with
  | none => rfl
  | some v =>
    have hv : ¬ v.category = 2 := by simpa [xw1] using hw
    simp [xset, xset2, xclr, hv])⟩ k
theorem r_astore7 {a0 a1 a2 a3 a4 a5 a6 a7 : Option Value} {x : Nat} (hd : decode cc pc = .ok (.astore 7, 2)) (hw : xw1 a6 = true) (k : xR call ex X y cc ret (pc + 2) (a0 :: a1 :: a2 :: a3 :: a4 :: a5 :: a6 :: some (.ref x) :: ls) st S Q) : xR call ex X y cc ret pc (a0 :: a1 :: a2 :: a3 :: a4 :: a5 :: a6 :: a7 :: ls) (.ref x :: st) S Q := r_step ⟨_, _, hd, rfl, rfl, rfl, (by show 7 < List.length _; simp), x, rfl, (by
  show _ = xset (a0 :: a1 :: a2 :: a3 :: a4 :: a5 :: a6 :: a7 :: ls) 7 (.ref x)
  cases a6 with
  | none => rfl
  | some v =>
    have hv : ¬ v.category = 2 := by simpa [xw1] using hw
    simp [xset, xset2, xclr, hv])⟩ k
theorem r_lstore7 {a0 a1 a2 a3 a4 a5 a6 a7 b0 : Option Value} {x : Int64} (hd : decode cc pc = .ok (.lstore 7, 2)) (hw : xw1 a6 = true) (k : xR call ex X y cc ret (pc + 2) (a0 :: a1 :: a2 :: a3 :: a4 :: a5 :: a6 :: some (.long x) :: none :: ls) st S Q) : xR call ex X y cc ret pc (a0 :: a1 :: a2 :: a3 :: a4 :: a5 :: a6 :: a7 :: b0 :: ls) (.long x :: st) S Q := r_step ⟨_, _, hd, rfl, rfl, rfl, (by show 8 < List.length _; simp), x, rfl, (by
  show _ = xset2 (a0 :: a1 :: a2 :: a3 :: a4 :: a5 :: a6 :: a7 :: b0 :: ls) 7 (.long x)
  cases a6 with
  | none => rfl
  | some v =>
    have hv : ¬ v.category = 2 := by simpa [xw1] using hw
    simp [xset, xset2, xclr, hv])⟩ k
theorem r_iinc7 {a0 a1 a2 a3 a4 a5 a6 : Option Value} {x v : Int32} {n : Int} (hd : decode cc pc = .ok (.iinc 7 n, 3)) (hv : Int32.ofInt n = v) (hw : xw1 a6 = true) (k : xR call ex X y cc ret (pc + 3) (a0 :: a1 :: a2 :: a3 :: a4 :: a5 :: a6 :: some (.int (x + v)) :: ls) st S Q) : xR call ex X y cc ret pc (a0 :: a1 :: a2 :: a3 :: a4 :: a5 :: a6 :: some (.int x) :: ls) st S Q := r_step ⟨_, _, hd, rfl, rfl, rfl, rfl, x, rfl, by rw [hv]; exact (by
  show _ = xset (a0 :: a1 :: a2 :: a3 :: a4 :: a5 :: a6 :: some (.int x) :: ls) 7 (.int (x + v))
  cases a6 with
  | none => rfl
  | some v =>
    have hv : ¬ v.category = 2 := by simpa [xw1] using hw
    simp [xset, xset2, xclr, hv])⟩ k
theorem r_istore8 {a0 a1 a2 a3 a4 a5 a6 a7 a8 : Option Value} {x : Int32} (hd : decode cc pc = .ok (.istore 8, 2)) (hw : xw1 a7 = true) (k : xR call ex X y cc ret (pc + 2) (a0 :: a1 :: a2 :: a3 :: a4 :: a5 :: a6 :: a7 :: some (.int x) :: ls) st S Q) : xR call ex X y cc ret pc (a0 :: a1 :: a2 :: a3 :: a4 :: a5 :: a6 :: a7 :: a8 :: ls) (.int x :: st) S Q := r_step ⟨_, _, hd, rfl, rfl, rfl, (by show 8 < List.length _; simp), x, rfl, (by
  show _ = xset (a0 :: a1 :: a2 :: a3 :: a4 :: a5 :: a6 :: a7 :: a8 :: ls) 8 (.int x)
  cases a7 with
  | none => rfl
  | some v =>
    have hv : ¬ v.category = 2 := by simpa [xw1] using hw
    simp [xset, xset2, xclr, hv])⟩ k
theorem r_astore8 {a0 a1 a2 a3 a4 a5 a6 a7 a8 : Option Value} {x : Nat} (hd : decode cc pc = .ok (.astore 8, 2)) (hw : xw1 a7 = true) (k : xR call ex X y cc ret (pc + 2) (a0 :: a1 :: a2 :: a3 :: a4 :: a5 :: a6 :: a7 :: some (.ref x) :: ls) st S Q) : xR call ex X y cc ret pc (a0 :: a1 :: a2 :: a3 :: a4 :: a5 :: a6 :: a7 :: a8 :: ls) (.ref x :: st) S Q := r_step ⟨_, _, hd, rfl, rfl, rfl, (by show 8 < List.length _; simp), x, rfl, (by
  show _ = xset (a0 :: a1 :: a2 :: a3 :: a4 :: a5 :: a6 :: a7 :: a8 :: ls) 8 (.ref x)
  cases a7 with
  | none => rfl
  | some v =>
    have hv : ¬ v.category = 2 := by simpa [xw1] using hw
    simp [xset, xset2, xclr, hv])⟩ k
theorem r_lstore8 {a0 a1 a2 a3 a4 a5 a6 a7 a8 b0 : Option Value} {x : Int64} (hd : decode cc pc = .ok (.lstore 8, 2)) (hw : xw1 a7 = true) (k : xR call ex X y cc ret (pc + 2) (a0 :: a1 :: a2 :: a3 :: a4 :: a5 :: a6 :: a7 :: some (.long x) :: none :: ls) st S Q) : xR call ex X y cc ret pc (a0 :: a1 :: a2 :: a3 :: a4 :: a5 :: a6 :: a7 :: a8 :: b0 :: ls) (.long x :: st) S Q := r_step ⟨_, _, hd, rfl, rfl, rfl, (by show 9 < List.length _; simp), x, rfl, (by
  show _ = xset2 (a0 :: a1 :: a2 :: a3 :: a4 :: a5 :: a6 :: a7 :: a8 :: b0 :: ls) 8 (.long x)
  cases a7 with
  | none => rfl
  | some v =>
    have hv : ¬ v.category = 2 := by simpa [xw1] using hw
    simp [xset, xset2, xclr, hv])⟩ k
theorem r_iinc8 {a0 a1 a2 a3 a4 a5 a6 a7 : Option Value} {x v : Int32} {n : Int} (hd : decode cc pc = .ok (.iinc 8 n, 3)) (hv : Int32.ofInt n = v) (hw : xw1 a7 = true) (k : xR call ex X y cc ret (pc + 3) (a0 :: a1 :: a2 :: a3 :: a4 :: a5 :: a6 :: a7 :: some (.int (x + v)) :: ls) st S Q) : xR call ex X y cc ret pc (a0 :: a1 :: a2 :: a3 :: a4 :: a5 :: a6 :: a7 :: some (.int x) :: ls) st S Q := r_step ⟨_, _, hd, rfl, rfl, rfl, rfl, x, rfl, by rw [hv]; exact (by
  show _ = xset (a0 :: a1 :: a2 :: a3 :: a4 :: a5 :: a6 :: a7 :: some (.int x) :: ls) 8 (.int (x + v))
  cases a7 with
  | none => rfl
  | some v =>
    have hv : ¬ v.category = 2 := by simpa [xw1] using hw
    simp [xset, xset2, xclr, hv])⟩ k
theorem r_istore9 {a0 a1 a2 a3 a4 a5 a6 a7 a8 a9 : Option Value} {x : Int32} (hd : decode cc pc = .ok (.istore 9, 2)) (hw : xw1 a8 = true) (k : xR call ex X y cc ret (pc + 2) (a0 :: a1 :: a2 :: a3 :: a4 :: a5 :: a6 :: a7 :: a8 :: some (.int x) :: ls) st S Q) : xR call ex X y cc ret pc (a0 :: a1 :: a2 :: a3 :: a4 :: a5 :: a6 :: a7 :: a8 :: a9 :: ls) (.int x :: st) S Q := r_step ⟨_, _, hd, rfl, rfl, rfl, (by show 9 < List.length _; simp), x, rfl, (by
  show _ = xset (a0 :: a1 :: a2 :: a3 :: a4 :: a5 :: a6 :: a7 :: a8 :: a9 :: ls) 9 (.int x)
  cases a8 with
  | none => rfl
  | some v =>
    have hv : ¬ v.category = 2 := by simpa [xw1] using hw
    simp [xset, xset2, xclr, hv])⟩ k
theorem r_astore9 {a0 a1 a2 a3 a4 a5 a6 a7 a8 a9 : Option Value} {x : Nat} (hd : decode cc pc = .ok (.astore 9, 2)) (hw : xw1 a8 = true) (k : xR call ex X y cc ret (pc + 2) (a0 :: a1 :: a2 :: a3 :: a4 :: a5 :: a6 :: a7 :: a8 :: some (.ref x) :: ls) st S Q) : xR call ex X y cc ret pc (a0 :: a1 :: a2 :: a3 :: a4 :: a5 :: a6 :: a7 :: a8 :: a9 :: ls) (.ref x :: st) S Q := r_step ⟨_, _, hd, rfl, rfl, rfl, (by show 9 < List.length _; simp), x, rfl, (by
  show _ = xset (a0 :: a1 :: a2 :: a3 :: a4 :: a5 :: a6 :: a7 :: a8 :: a9 :: ls) 9 (.ref x)
  cases a8 with
  | none => rfl
  | some v =>
    have hv : ¬ v.category = 2 := by simpa [xw1] using hw
    simp [xset, xset2, xclr, hv])⟩ k
theorem r_lstore9 {a0 a1 a2 a3 a4 a5 a6 a7 a8 a9 b0 : Option Value} {x : Int64} (hd : decode cc pc = .ok (.lstore 9, 2)) (hw : xw1 a8 = true) (k : xR call ex X y cc ret (pc + 2) (a0 :: a1 :: a2 :: a3 :: a4 :: a5 :: a6 :: a7 :: a8 :: some (.long x) :: none :: ls) st S Q) : xR call ex X y cc ret pc (a0 :: a1 :: a2 :: a3 :: a4 :: a5 :: a6 :: a7 :: a8 :: a9 :: b0 :: ls) (.long x :: st) S Q := r_step ⟨_, _, hd, rfl, rfl, rfl, (by show 10 < List.length _; simp), x, rfl, (by
  show _ = xset2 (a0 :: a1 :: a2 :: a3 :: a4 :: a5 :: a6 :: a7 :: a8 :: a9 :: b0 :: ls) 9 (.long x)
  cases a8 with
  | none => rfl
  | some v =>
    have hv : ¬ v.category = 2 := by simpa [xw1] using hw
    simp [xset, xset2, xclr, hv])⟩ k
theorem r_iinc9 {a0 a1 a2 a3 a4 a5 a6 a7 a8 : Option Value} {x v : Int32} {n : Int} (hd : decode cc pc = .ok (.iinc 9 n, 3)) (hv : Int32.ofInt n = v) (hw : xw1 a8 = true) (k : xR call ex X y cc ret (pc + 3) (a0 :: a1 :: a2 :: a3 :: a4 :: a5 :: a6 :: a7 :: a8 :: some (.int (x + v)) :: ls) st S Q) : xR call ex X y cc ret pc (a0 :: a1 :: a2 :: a3 :: a4 :: a5 :: a6 :: a7 :: a8 :: some (.int x) :: ls) st S Q := r_step ⟨_, _, hd, rfl, rfl, rfl, rfl, x, rfl, by rw [hv]; exact (by
  show _ = xset (a0 :: a1 :: a2 :: a3 :: a4 :: a5 :: a6 :: a7 :: a8 :: some (.int x) :: ls) 9 (.int (x + v))
  cases a8 with
  | none => rfl
  | some v =>
    have hv : ¬ v.category = 2 := by simpa [xw1] using hw
    simp [xset, xset2, xclr, hv])⟩ k
theorem r_istore10 {a0 a1 a2 a3 a4 a5 a6 a7 a8 a9 a10 : Option Value} {x : Int32} (hd : decode cc pc = .ok (.istore 10, 2)) (hw : xw1 a9 = true) (k : xR call ex X y cc ret (pc + 2) (a0 :: a1 :: a2 :: a3 :: a4 :: a5 :: a6 :: a7 :: a8 :: a9 :: some (.int x) :: ls) st S Q) : xR call ex X y cc ret pc (a0 :: a1 :: a2 :: a3 :: a4 :: a5 :: a6 :: a7 :: a8 :: a9 :: a10 :: ls) (.int x :: st) S Q := r_step ⟨_, _, hd, rfl, rfl, rfl, (by show 10 < List.length _; simp), x, rfl, (by
  show _ = xset (a0 :: a1 :: a2 :: a3 :: a4 :: a5 :: a6 :: a7 :: a8 :: a9 :: a10 :: ls) 10 (.int x)
  cases a9 with
  | none => rfl
  | some v =>
    have hv : ¬ v.category = 2 := by simpa [xw1] using hw
    simp [xset, xset2, xclr, hv])⟩ k
theorem r_astore10 {a0 a1 a2 a3 a4 a5 a6 a7 a8 a9 a10 : Option Value} {x : Nat} (hd : decode cc pc = .ok (.astore 10, 2)) (hw : xw1 a9 = true) (k : xR call ex X y cc ret (pc + 2) (a0 :: a1 :: a2 :: a3 :: a4 :: a5 :: a6 :: a7 :: a8 :: a9 :: some (.ref x) :: ls) st S Q) : xR call ex X y cc ret pc (a0 :: a1 :: a2 :: a3 :: a4 :: a5 :: a6 :: a7 :: a8 :: a9 :: a10 :: ls) (.ref x :: st) S Q := r_step ⟨_, _, hd, rfl, rfl, rfl, (by show 10 < List.length _; simp), x, rfl, (by
  show _ = xset (a0 :: a1 :: a2 :: a3 :: a4 :: a5 :: a6 :: a7 :: a8 :: a9 :: a10 :: ls) 10 (.ref x)
  cases a9 with
  | none => rfl
  | some v =>
    have hv : ¬ v.category = 2 := by simpa [xw1] using hw
    simp [xset, xset2, xclr, hv])⟩ k
theorem r_lstore10 {a0 a1 a2 a3 a4 a5 a6 a7 a8 a9 a10 b0 : Option Value} {x : Int64} (hd : decode cc pc = .ok (.lstore 10, 2)) (hw : xw1 a9 = true) (k : xR call ex X y cc ret (pc + 2) (a0 :: a1 :: a2 :: a3 :: a4 :: a5 :: a6 :: a7 :: a8 :: a9 :: some (.long x) :: none :: ls) st S Q) : xR call ex X y cc ret pc (a0 :: a1 :: a2 :: a3 :: a4 :: a5 :: a6 :: a7 :: a8 :: a9 :: a10 :: b0 :: ls) (.long x :: st) S Q := r_step ⟨_, _, hd, rfl, rfl, rfl, (by show 11 < List.length _; simp), x, rfl, (by
  show _ = xset2 (a0 :: a1 :: a2 :: a3 :: a4 :: a5 :: a6 :: a7 :: a8 :: a9 :: a10 :: b0 :: ls) 10 (.long x)
  cases a9 with
  | none => rfl
  | some v =>
    have hv : ¬ v.category = 2 := by simpa [xw1] using hw
    simp [xset, xset2, xclr, hv])⟩ k
theorem r_iinc10 {a0 a1 a2 a3 a4 a5 a6 a7 a8 a9 : Option Value} {x v : Int32} {n : Int} (hd : decode cc pc = .ok (.iinc 10 n, 3)) (hv : Int32.ofInt n = v) (hw : xw1 a9 = true) (k : xR call ex X y cc ret (pc + 3) (a0 :: a1 :: a2 :: a3 :: a4 :: a5 :: a6 :: a7 :: a8 :: a9 :: some (.int (x + v)) :: ls) st S Q) : xR call ex X y cc ret pc (a0 :: a1 :: a2 :: a3 :: a4 :: a5 :: a6 :: a7 :: a8 :: a9 :: some (.int x) :: ls) st S Q := r_step ⟨_, _, hd, rfl, rfl, rfl, rfl, x, rfl, by rw [hv]; exact (by
  show _ = xset (a0 :: a1 :: a2 :: a3 :: a4 :: a5 :: a6 :: a7 :: a8 :: a9 :: some (.int x) :: ls) 10 (.int (x + v))
  cases a9 with
  | none => rfl
  | some v =>
    have hv : ¬ v.category = 2 := by simpa [xw1] using hw
    simp [xset, xset2, xclr, hv])⟩ k
theorem r_istore11 {a0 a1 a2 a3 a4 a5 a6 a7 a8 a9 a10 a11 : Option Value} {x : Int32} (hd : decode cc pc = .ok (.istore 11, 2)) (hw : xw1 a10 = true) (k : xR call ex X y cc ret (pc + 2) (a0 :: a1 :: a2 :: a3 :: a4 :: a5 :: a6 :: a7 :: a8 :: a9 :: a10 :: some (.int x) :: ls) st S Q) : xR call ex X y cc ret pc (a0 :: a1 :: a2 :: a3 :: a4 :: a5 :: a6 :: a7 :: a8 :: a9 :: a10 :: a11 :: ls) (.int x :: st) S Q := r_step ⟨_, _, hd, rfl, rfl, rfl, (by show 11 < List.length _; simp), x, rfl, (by
  show _ = xset (a0 :: a1 :: a2 :: a3 :: a4 :: a5 :: a6 :: a7 :: a8 :: a9 :: a10 :: a11 :: ls) 11 (.int x)
  cases a10 with
  | none => rfl
  | some v =>
    have hv : ¬ v.category = 2 := by simpa [xw1] using hw
    simp [xset, xset2, xclr, hv])⟩ k
theorem r_astore11 {a0 a1 a2 a3 a4 a5 a6 a7 a8 a9 a10 a11 : Option Value} {x : Nat} (hd : decode cc pc = .ok (.astore 11, 2)) (hw : xw1 a10 = true) (k : xR call ex X y cc ret (pc + 2) (a0 :: a1 :: a2 :: a3 :: a4 :: a5 :: a6 :: a7 :: a8 :: a9 :: a10 :: some (.ref x) :: ls) st S Q) : xR call ex X y cc ret pc (a0 :: a1 :: a2 :: a3 :: a4 :: a5 :: a6 :: a7 :: a8 :: a9 :: a10 :: a11 :: ls) (.ref x :: st) S Q := r_step ⟨_, _, hd, rfl, rfl, rfl, (by show 11 < List.length _; simp), x, rfl, (by
  show _ = xset (a0 :: a1 :: a2 :: a3 :: a4 :: a5 :: a6 :: a7 :: a8 :: a9 :: a10 :: a11 :: ls) 11 (.ref x)
  cases a10 with
  | none => rfl
  | some v =>
    have hv : ¬ v.category = 2 := by simpa [xw1] using hw
    simp [xset, xset2, xclr, hv])⟩ k
theorem r_lstore11 {a0 a1 a2 a3 a4 a5 a6 a7 a8 a9 a10 a11 b0 : Option Value} {x : Int64} (hd : decode cc pc = .ok (.lstore 11, 2)) (hw : xw1 a10 = true) (k : xR call ex X y cc ret (pc + 2) (a0 :: a1 :: a2 :: a3 :: a4 :: a5 :: a6 :: a7 :: a8 :: a9 :: a10 :: some (.long x) :: none :: ls) st S Q) : xR call ex X y cc ret pc (a0 :: a1 :: a2 :: a3 :: a4 :: a5 :: a6 :: a7 :: a8 :: a9 :: a10 :: a11 :: b0 :: ls) (.long x :: st) S Q := r_step ⟨_, _, hd, rfl, rfl, rfl, (by show 12 < List.length _; simp), x, rfl, (by
  show _ = xset2 (a0 :: a1 :: a2 :: a3 :: a4 :: a5 :: a6 :: a7 :: a8 :: a9 :: a10 :: a11 :: b0 :: ls) 11 (.long x)
  cases a10 with
  | none => rfl
  | some v =>
    have hv : ¬ v.category = 2 := by simpa [xw1] using hw
    simp [xset, xset2, xclr, hv])⟩ k
theorem r_iinc11 {a0 a1 a2 a3 a4 a5 a6 a7 a8 a9 a10 : Option Value} {x v : Int32} {n : Int} (hd : decode cc pc = .ok (.iinc 11 n, 3)) (hv : Int32.ofInt n = v) (hw : xw1 a10 = true) (k : xR call ex X y cc ret (pc + 3) (a0 :: a1 :: a2 :: a3 :: a4 :: a5 :: a6 :: a7 :: a8 :: a9 :: a10 :: some (.int (x + v)) :: ls) st S Q) : xR call ex X y cc ret pc (a0 :: a1 :: a2 :: a3 :: a4 :: a5 :: a6 :: a7 :: a8 :: a9 :: a10 :: some (.int x) :: ls) st S Q := r_step ⟨_, _, hd, rfl, rfl, rfl, rfl, x, rfl, by rw [hv]; exact (by
  show _ = xset (a0 :: a1 :: a2 :: a3 :: a4 :: a5 :: a6 :: a7 :: a8 :: a9 :: a10 :: some (.int x) :: ls) 11 (.int (x + v))
  cases a10 with
  | none => rfl
  | some v =>
    have hv : ¬ v.category = 2 := by simpa [xw1] using hw
    simp [xset, xset2, xclr, hv])⟩ k
theorem r_istore12 {a0 a1 a2 a3 a4 a5 a6 a7 a8 a9 a10 a11 a12 : Option Value} {x : Int32} (hd : decode cc pc = .ok (.istore 12, 2)) (hw : xw1 a11 = true) (k : xR call ex X y cc ret (pc + 2) (a0 :: a1 :: a2 :: a3 :: a4 :: a5 :: a6 :: a7 :: a8 :: a9 :: a10 :: a11 :: some (.int x) :: ls) st S Q) : xR call ex X y cc ret pc (a0 :: a1 :: a2 :: a3 :: a4 :: a5 :: a6 :: a7 :: a8 :: a9 :: a10 :: a11 :: a12 :: ls) (.int x :: st) S Q := r_step ⟨_, _, hd, rfl, rfl, rfl, (by show 12 < List.length _; simp), x, rfl, (by
  show _ = xset (a0 :: a1 :: a2 :: a3 :: a4 :: a5 :: a6 :: a7 :: a8 :: a9 :: a10 :: a11 :: a12 :: ls) 12 (.int x)
  cases a11 with
  | none => rfl
  | some v =>
    have hv : ¬ v.category = 2 := by simpa [xw1] using hw
    simp [xset, xset2, xclr, hv])⟩ k
theorem r_astore12 {a0 a1 a2 a3 a4 a5 a6 a7 a8 a9 a10 a11 a12 : Option Value} {x : Nat} (hd : decode cc pc = .ok (.astore 12, 2)) (hw : xw1 a11 = true) (k : xR call ex X y cc ret (pc + 2) (a0 :: a1 :: a2 :: a3 :: a4 :: a5 :: a6 :: a7 :: a8 :: a9 :: a10 :: a11 :: some (.ref x) :: ls) st S Q) : xR call ex X y cc ret pc (a0 :: a1 :: a2 :: a3 :: a4 :: a5 :: a6 :: a7 :: a8 :: a9 :: a10 :: a11 :: a12 :: ls) (.ref x :: st) S Q := r_step ⟨_, _, hd, rfl, rfl, rfl, (by show 12 < List.length _; simp), x, rfl, (by
  show _ = xset (a0 :: a1 :: a2 :: a3 :: a4 :: a5 :: a6 :: a7 :: a8 :: a9 :: a10 :: a11 :: a12 :: ls) 12 (.ref x)
  cases a11 with
  | none => rfl
  | some v =>
    have hv : ¬ v.category = 2 := by simpa [xw1] using hw
    simp [xset, xset2, xclr, hv])⟩ k
theorem r_lstore12 {a0 a1 a2 a3 a4 a5 a6 a7 a8 a9 a10 a11 a12 b0 : Option Value} {x : Int64} (hd : decode cc pc = .ok (.lstore 12, 2)) (hw : xw1 a11 = true) (k : xR call ex X y cc ret (pc + 2) (a0 :: a1 :: a2 :: a3 :: a4 :: a5 :: a6 :: a7 :: a8 :: a9 :: a10 :: a11 :: some (.long x) :: none :: ls) st S Q) : xR call ex X y cc ret pc (a0 :: a1 :: a2 :: a3 :: a4 :: a5 :: a6 :: a7 :: a8 :: a9 :: a10 :: a11 :: a12 :: b0 :: ls) (.long x :: st) S Q := r_step ⟨_, _, hd, rfl, rfl, rfl, (by show 13 < List.length _; simp), x, rfl, (by
  show _ = xset2 (a0 :: a1 :: a2 :: a3 :: a4 :: a5 :: a6 :: a7 :: a8 :: a9 :: a10 :: a11 :: a12 :: b0 :: ls) 12 (.long x)
  cases a11 with
  | none => rfl
  | some v =>
    have hv : ¬ v.category = 2 := by simpa [xw1] using hw
    simp [xset, xset2, xclr, hv])⟩ k
theorem r_iinc12 {a0 a1 a2 a3 a4 a5 a6 a7 a8 a9 a10 a11 : Option Value} {x v : Int32} {n : Int} (hd : decode cc pc = .ok (.iinc 12 n, 3)) (hv : Int32.ofInt n = v) (hw : xw1 a11 = true) (k : xR call ex X y cc ret (pc + 3) (a0 :: a1 :: a2 :: a3 :: a4 :: a5 :: a6 :: a7 :: a8 :: a9 :: a10 :: a11 :: some (.int (x + v)) :: ls) st S Q) : xR call ex X y cc ret pc (a0 :: a1 :: a2 :: a3 :: a4 :: a5 :: a6 :: a7 :: a8 :: a9 :: a10 :: a11 :: some (.int x) :: ls) st S Q := r_step ⟨_, _, hd, rfl, rfl, rfl, rfl, x, rfl, by rw [hv]; exact (by
  show _ = xset (a0 :: a1 :: a2 :: a3 :: a4 :: a5 :: a6 :: a7 :: a8 :: a9 :: a10 :: a11 :: some (.int x) :: ls) 12 (.int (x + v))
  cases a11 with
  | none => rfl
  | some v =>
    have hv : ¬ v.category = 2 := by simpa [xw1] using hw
    simp [xset, xset2, xclr, hv])⟩ k
theorem r_istore13 {a0 a1 a2 a3 a4 a5 a6 a7 a8 a9 a10 a11 a12 a13 : Option Value} {x : Int32} (hd : decode cc pc = .ok (.istore 13, 2)) (hw : xw1 a12 = true) (k : xR call ex X y cc ret (pc + 2) (a0 :: a1 :: a2 :: a3 :: a4 :: a5 :: a6 :: a7 :: a8 :: a9 :: a10 :: a11 :: a12 :: some (.int x) :: ls) st S Q) : xR call ex X y cc ret pc (a0 :: a1 :: a2 :: a3 :: a4 :: a5 :: a6 :: a7 :: a8 :: a9 :: a10 :: a11 :: a12 :: a13 :: ls) (.int x :: st) S Q := r_step ⟨_, _, hd, rfl, rfl, rfl, (by show 13 < List.length _; simp), x, rfl, (by
  show _ = xset (a0 :: a1 :: a2 :: a3 :: a4 :: a5 :: a6 :: a7 :: a8 :: a9 :: a10 :: a11 :: a12 :: a13 :: ls) 13 (.int x)
  cases a12 with
  | none => rfl
  | some v =>
    have hv : ¬ v.category = 2 := by simpa [xw1] using hw
    simp [xset, xset2, xclr, hv])⟩ k
theorem r_astore13 {a0 a1 a2 a3 a4 a5 a6 a7 a8 a9 a10 a11 a12 a13 : Option Value} {x : Nat} (hd : decode cc pc = .ok (.astore 13, 2)) (hw : xw1 a12 = true) (k : xR call ex X y cc ret (pc + 2) (a0 :: a1 :: a2 :: a3 :: a4 :: a5 :: a6 :: a7 :: a8 :: a9 :: a10 :: a11 :: a12 :: some (.ref x) :: ls) st S Q) : xR call ex X y cc ret pc (a0 :: a1 :: a2 :: a3 :: a4 :: a5 :: a6 :: a7 :: a8 :: a9 :: a10 :: a11 :: a12 :: a13 :: ls) (.ref x :: st) S Q := r_step ⟨_, _, hd, rfl, rfl, rfl, (by show 13 < List.length _; simp), x, rfl, (by
  show _ = xset (a0 :: a1 :: a2 :: a3 :: a4 :: a5 :: a6 :: a7 :: a8 :: a9 :: a10 :: a11 :: a12 :: a13 :: ls) 13 (.ref x)
  cases a12 with
  | none => rfl
  | some v =>
    have hv : ¬ v.category = 2 := by simpa [xw1] using hw
    simp [xset, xset2, xclr, hv])⟩ k
theorem r_lstore13 {a0 a1 a2 a3 a4 a5 a6 a7 a8 a9 a10 a11 a12 a13 b0 : Option Value} {x : Int64} (hd : decode cc pc = .ok (.lstore 13, 2)) (hw : xw1 a12 = true) (k : xR call ex X y cc ret (pc + 2) (a0 :: a1 :: a2 :: a3 :: a4 :: a5 :: a6 :: a7 :: a8 :: a9 :: a10 :: a11 :: a12 :: some (.long x) :: none :: ls) st S Q) : xR call ex X y cc ret pc (a0 :: a1 :: a2 :: a3 :: a4 :: a5 :: a6 :: a7 :: a8 :: a9 :: a10 :: a11 :: a12 :: a13 :: b0 :: ls) (.long x :: st) S Q := r_step ⟨_, _, hd, rfl, rfl, rfl, (by show 14 < List.length _; simp), x, rfl, (by
  show _ = xset2 (a0 :: a1 :: a2 :: a3 :: a4 :: a5 :: a6 :: a7 :: a8 :: a9 :: a10 :: a11 :: a12 :: a13 :: b0 :: ls) 13 (.long x)
  cases a12 with
  | none => rfl
  | some v =>
    have hv : ¬ v.category = 2 := by simpa [xw1] using hw
    simp [xset, xset2, xclr, hv])⟩ k
theorem r_iinc13 {a0 a1 a2 a3 a4 a5 a6 a7 a8 a9 a10 a11 a12 : Option Value} {x v : Int32} {n : Int} (hd : decode cc pc = .ok (.iinc 13 n, 3)) (hv : Int32.ofInt n = v) (hw : xw1 a12 = true) (k : xR call ex X y cc ret (pc + 3) (a0 :: a1 :: a2 :: a3 :: a4 :: a5 :: a6 :: a7 :: a8 :: a9 :: a10 :: a11 :: a12 :: some (.int (x + v)) :: ls) st S Q) : xR call ex X y cc ret pc (a0 :: a1 :: a2 :: a3 :: a4 :: a5 :: a6 :: a7 :: a8 :: a9 :: a10 :: a11 :: a12 :: some (.int x) :: ls) st S Q := r_step ⟨_, _, hd, rfl, rfl, rfl, rfl, x, rfl, by rw [hv]; exact (by
  show _ = xset (a0 :: a1 :: a2 :: a3 :: a4 :: a5 :: a6 :: a7 :: a8 :: a9 :: a10 :: a11 :: a12 :: some (.int x) :: ls) 13 (.int (x + v))
  cases a12 with
  | none => rfl
  | some v =>
    have hv : ¬ v.category = 2 := by simpa [xw1] using hw
    simp [xset, xset2, xclr, hv])⟩ k
theorem r_istore14 {a0 a1 a2 a3 a4 a5 a6 a7 a8 a9 a10 a11 a12 a13 a14 : Option Value} {x : Int32} (hd : decode cc pc = .ok (.istore 14, 2)) (hw : xw1 a13 = true) (k : xR call ex X y cc ret (pc + 2) (a0 :: a1 :: a2 :: a3 :: a4 :: a5 :: a6 :: a7 :: a8 :: a9 :: a10 :: a11 :: a12 :: a13 :: some (.int x) :: ls) st S Q) : xR call ex X y cc ret pc (a0 :: a1 :: a2 :: a3 :: a4 :: a5 :: a6 :: a7 :: a8 :: a9 :: a10 :: a11 :: a12 :: a13 :: a14 :: ls) (.int x :: st) S Q := r_step ⟨_, _, hd, rfl, rfl, rfl, (by show 14 < List.length _; simp), x, rfl, (by
  show _ = xset (a0 :: a1 :: a2 :: a3 :: a4 :: a5 :: a6 :: a7 :: a8 :: a9 :: a10 :: a11 :: a12 :: a13 :: a14 :: ls) 14 (.int x)
  cases a13 with
  | none => rfl
  | some v =>
    have hv : ¬ v.category = 2 := by simpa [xw1] using hw
    simp [xset, xset2, xclr, hv])⟩ k
theorem r_astore14 {a0 a1 a2 a3 a4 a5 a6 a7 a8 a9 a10 a11 a12 a13 a14 : Option Value} {x : Nat} (hd : decode cc pc = .ok (.astore 14, 2)) (hw : xw1 a13 = true) (k : xR call ex X y cc ret (pc + 2) (a0 :: a1 :: a2 :: a3 :: a4 :: a5 :: a6 :: a7 :: a8 :: a9 :: a10 :: a11 :: a12 :: a13 :: some (.ref x) :: ls) st S Q) : xR call ex X y cc ret pc (a0 :: a1 :: a2 :: a3 :: a4 :: a5 :: a6 :: a7 :: a8 :: a9 :: a10 :: a11 :: a12 :: a13 :: a14 :: ls) (.ref x :: st) S Q := r_step ⟨_, _, hd, rfl, rfl, rfl, (by show 14 < List.length _; simp), x, rfl, (by
  show _ = xset (a0 :: a1 :: a2 :: a3 :: a4 :: a5 :: a6 :: a7 :: a8 :: a9 :: a10 :: a11 :: a12 :: a13 :: a14 :: ls) 14 (.ref x)
  cases a13 with
  | none => rfl
  | some v =>
    have hv : ¬ v.category = 2 := by simpa [xw1] using hw
    simp [xset, xset2, xclr, hv])⟩ k
theorem r_lstore14 {a0 a1 a2 a3 a4 a5 a6 a7 a8 a9 a10 a11 a12 a13 a14 b0 : Option Value} {x : Int64} (hd : decode cc pc = .ok (.lstore 14, 2)) (hw : xw1 a13 = true) (k : xR call ex X y cc ret (pc + 2) (a0 :: a1 :: a2 :: a3 :: a4 :: a5 :: a6 :: a7 :: a8 :: a9 :: a10 :: a11 :: a12 :: a13 :: some (.long x) :: none :: ls) st S Q) : xR call ex X y cc ret pc (a0 :: a1 :: a2 :: a3 :: a4 :: a5 :: a6 :: a7 :: a8 :: a9 :: a10 :: a11 :: a12 :: a13 :: a14 :: b0 :: ls) (.long x :: st) S Q := r_step ⟨_, _, hd, rfl, rfl, rfl, (by show 15 < List.length _; simp), x, rfl, (by
  show _ = xset2 (a0 :: a1 :: a2 :: a3 :: a4 :: a5 :: a6 :: a7 :: a8 :: a9 :: a10 :: a11 :: a12 :: a13 :: a14 :: b0 :: ls) 14 (.long x)
  cases a13 with
  | none => rfl
  | some v =>
    have hv : ¬ v.category = 2 := by simpa [xw1] using hw
    simp [xset, xset2, xclr, hv])⟩ k
theorem r_iinc14 {a0 a1 a2 a3 a4 a5 a6 a7 a8 a9 a10 a11 a12 a13 : Option Value} {x v : Int32} {n : Int} (hd : decode cc pc = .ok (.iinc 14 n, 3)) (hv : Int32.ofInt n = v) (hw : xw1 a13 = true) (k : xR call ex X y cc ret (pc + 3) (a0 :: a1 :: a2 :: a3 :: a4 :: a5 :: a6 :: a7 :: a8 :: a9 :: a10 :: a11 :: a12 :: a13 :: some (.int (x + v)) :: ls) st S Q) : xR call ex X y cc ret pc (a0 :: a1 :: a2 :: a3 :: a4 :: a5 :: a6 :: a7 :: a8 :: a9 :: a10 :: a11 :: a12 :: a13 :: some (.int x) :: ls) st S Q := r_step ⟨_, _, hd, rfl, rfl, rfl, rfl, x, rfl, by rw [hv]; exact (by
  show _ = xset (a0 :: a1 :: a2 :: a3 :: a4 :: a5 :: a6 :: a7 :: a8 :: a9 :: a10 :: a11 :: a12 :: a13 :: some (.int x) :: ls) 14 (.int (x + v))
  cases a13 with
  | none => rfl
  | some v =>
    have hv : ¬ v.category = 2 := by simpa [xw1] using hw
    simp [xset, xset2, xclr, hv])⟩ k
theorem r_iadd {x z : Int32} (hd : decode cc pc = .ok (.iadd, 1)) (k : xR call ex X y cc ret (pc + 1) ls (.int (x + z) :: st) S Q) : xR call ex X y cc ret pc ls (.int z :: .int x :: st) S Q := r_step ⟨_, _, hd, rfl, ⟨rfl, rfl, rfl⟩, x, z, st, rfl, rfl⟩ k
theorem r_isub {x z : Int32} (hd : decode cc pc = .ok (.isub, 1)) (k : xR call ex X y cc ret (pc + 1) ls (.int (x - z) :: st) S Q) : xR call ex X y cc ret pc ls (.int z :: .int x :: st) S Q := r_step ⟨_, _, hd, rfl, ⟨rfl, rfl, rfl⟩, x, z, st, rfl, rfl⟩ k
theorem r_imul {x z : Int32} (hd : decode cc pc = .ok (.imul, 1)) (k : xR call ex X y cc ret (pc + 1) ls (.int (x * z) :: st) S Q) : xR call ex X y cc ret pc ls (.int z :: .int x :: st) S Q := r_step ⟨_, _, hd, rfl, ⟨rfl, rfl, rfl⟩, x, z, st, rfl, rfl⟩ k
theorem r_iand {x z : Int32} (hd : decode cc pc = .ok (.iand, 1)) (k : xR call ex X y cc ret (pc + 1) ls (.int (x &&& z) :: st) S Q) : xR call ex X y cc ret pc ls (.int z :: .int x :: st) S Q := r_step ⟨_, _, hd, rfl, ⟨rfl, rfl, rfl⟩, x, z, st, rfl, rfl⟩ k
theorem r_ior {x z : Int32} (hd : decode cc pc = .ok (.ior, 1)) (k : xR call ex X y cc ret (pc + 1) ls (.int (x ||| z) :: st) S Q) : xR call ex X y cc ret pc ls (.int z :: .int x :: st) S Q := r_step ⟨_, _, hd, rfl, ⟨rfl, rfl, rfl⟩, x, z, st, rfl, rfl⟩ k
theorem r_ixor {x z : Int32} (hd : decode cc pc = .ok (.ixor, 1)) (k : xR call ex X y cc ret (pc + 1) ls (.int (x ^^^ z) :: st) S Q) : xR call ex X y cc ret pc ls (.int z :: .int x :: st) S Q := r_step ⟨_, _, hd, rfl, ⟨rfl, rfl, rfl⟩, x, z, st, rfl, rfl⟩ k
theorem r_ishl {x z : Int32} (hd : decode cc pc = .ok (.ishl, 1)) (k : xR call ex X y cc ret (pc + 1) ls (.int (x <<< (z &&& 31)) :: st) S Q) : xR call ex X y cc ret pc ls (.int z :: .int x :: st) S Q := r_step ⟨_, _, hd, rfl, ⟨rfl, rfl, rfl⟩, x, z, st, rfl, rfl⟩ k
theorem r_ishr {x z : Int32} (hd : decode cc pc = .ok (.ishr, 1)) (k : xR call ex X y cc ret (pc + 1) ls (.int (x >>> (z &&& 31)) :: st) S Q) : xR call ex X y cc ret pc ls (.int z :: .int x :: st) S Q := r_step ⟨_, _, hd, rfl, ⟨rfl, rfl, rfl⟩, x, z, st, rfl, rfl⟩ k
theorem r_iushr {x z : Int32} (hd : decode cc pc = .ok (.iushr, 1)) (k : xR call ex X y cc ret (pc + 1) ls (.int ((x.toUInt32 >>> (z.toUInt32 &&& Int32.toUInt32 31)).toInt32) :: st) S Q) : xR call ex X y cc ret pc ls (.int z :: .int x :: st) S Q := r_step ⟨_, _, hd, rfl, ⟨rfl, rfl, rfl⟩, x, z, st, rfl, rfl⟩ k
theorem r_idiv {x z : Int32} (hd : decode cc pc = .ok (.idiv, 1)) (hz : ¬ z = 0) (k : xR call ex X y cc ret (pc + 1) ls (.int (x / z) :: st) S Q) : xR call ex X y cc ret pc ls (.int z :: .int x :: st) S Q := r_step ⟨_, _, hd, rfl, ⟨rfl, rfl, rfl⟩, x, z, st, hz, rfl, rfl⟩ k
theorem r_irem {x z : Int32} (hd : decode cc pc = .ok (.irem, 1)) (hz : ¬ z = 0) (k : xR call ex X y cc ret (pc + 1) ls (.int (x - x / z * z) :: st) S Q) : xR call ex X y cc ret pc ls (.int z :: .int x :: st) S Q := r_step ⟨_, _, hd, rfl, ⟨rfl, rfl, rfl⟩, x, z, st, hz, rfl, rfl⟩ k
theorem r_ladd {x z : Int64} (hd : decode cc pc = .ok (.ladd, 1)) (k : xR call ex X y cc ret (pc + 1) ls (.long (x + z) :: st) S Q) : xR call ex X y cc ret pc ls (.long z :: .long x :: st) S Q := r_step ⟨_, _, hd, rfl, ⟨rfl, rfl, rfl⟩, x, z, st, rfl, rfl⟩ k
theorem r_lsub {x z : Int64} (hd : decode cc pc = .ok (.lsub, 1)) (k : xR call ex X y cc ret (pc + 1) ls (.long (x - z) :: st) S Q) : xR call ex X y cc ret pc ls (.long z :: .long x :: st) S Q := r_step ⟨_, _, hd, rfl, ⟨rfl, rfl, rfl⟩, x, z, st, rfl, rfl⟩ k
theorem r_lmul {x z : Int64} (hd : decode cc pc = .ok (.lmul, 1)) (k : xR call ex X y cc ret (pc + 1) ls (.long (x * z) :: st) S Q) : xR call ex X y cc ret pc ls (.long z :: .long x :: st) S Q := r_step ⟨_, _, hd, rfl, ⟨rfl, rfl, rfl⟩, x, z, st, rfl, rfl⟩ k
theorem r_land {x z : Int64} (hd : decode cc pc = .ok (.land, 1)) (k : xR call ex X y cc ret (pc + 1) ls (.long (x &&& z) :: st) S Q) : xR call ex X y cc ret pc ls (.long z :: .long x :: st) S Q := r_step ⟨_, _, hd, rfl, ⟨rfl, rfl, rfl⟩, x, z, st, rfl, rfl⟩ k
theorem r_ldiv {x z : Int64} (hd : decode cc pc = .ok (.ldiv, 1)) (hz : ¬ z = 0) (k : xR call ex X y cc ret (pc + 1) ls (.long (x / z) :: st) S Q) : xR call ex X y cc ret pc ls (.long z :: .long x :: st) S Q := r_step ⟨_, _, hd, rfl, ⟨rfl, rfl, rfl⟩, x, z, st, hz, rfl, rfl⟩ k
theorem r_lrem {x z : Int64} (hd : decode cc pc = .ok (.lrem, 1)) (hz : ¬ z = 0) (k : xR call ex X y cc ret (pc + 1) ls (.long (x - x / z * z) :: st) S Q) : xR call ex X y cc ret pc ls (.long z :: .long x :: st) S Q := r_step ⟨_, _, hd, rfl, ⟨rfl, rfl, rfl⟩, x, z, st, hz, rfl, rfl⟩ k
theorem r_lneg {x : Int64} (hd : decode cc pc = .ok (.lneg, 1)) (k : xR call ex X y cc ret (pc + 1) ls (.long (-x) :: st) S Q) : xR call ex X y cc ret pc ls (.long x :: st) S Q := r_step ⟨_, _, hd, rfl, ⟨rfl, rfl, rfl⟩, x, st, rfl, rfl⟩ k
theorem r_lcmp {x z : Int64} (hd : decode cc pc = .ok (.lcmp, 1)) (k : xR call ex X y cc ret (pc + 1) ls (.int (lg_cmp x z) :: st) S Q) : xR call ex X y cc ret pc ls (.long z :: .long x :: st) S Q := r_step ⟨_, _, hd, rfl, ⟨rfl, rfl, rfl⟩, x, z, st, rfl, rfl⟩ k
theorem r_i2l {x : Int32} (hd : decode cc pc = .ok (.i2l, 1)) (k : xR call ex X y cc ret (pc + 1) ls (.long x.toInt64 :: st) S Q) : xR call ex X y cc ret pc ls (.int x :: st) S Q := r_step ⟨_, _, hd, rfl, ⟨rfl, rfl, rfl⟩, x, st, rfl, rfl⟩ k
theorem r_l2i {x : Int64} (hd : decode cc pc = .ok (.l2i, 1)) (k : xR call ex X y cc ret (pc + 1) ls (.int x.toInt32 :: st) S Q) : xR call ex X y cc ret pc ls (.long x :: st) S Q := r_step ⟨_, _, hd, rfl, ⟨rfl, rfl, rfl⟩, x, st, rfl, rfl⟩ k
theorem r_i2b {x : Int32} (hd : decode cc pc = .ok (.i2b, 1)) (k : xR call ex X y cc ret (pc + 1) ls (.int x.toInt8.toInt32 :: st) S Q) : xR call ex X y cc ret pc ls (.int x :: st) S Q := r_step ⟨_, _, hd, rfl, ⟨rfl, rfl, rfl⟩, x, st, rfl, rfl⟩ k
theorem r_dup {v : Value} (hd : decode cc pc = .ok (.dup, 1)) (hv : v.category = 1) (k : xR call ex X y cc ret (pc + 1) ls (v :: v :: st) S Q) : xR call ex X y cc ret pc ls (v :: st) S Q := r_step ⟨_, _, hd, rfl, ⟨rfl, rfl, rfl⟩, v, st, hv, rfl, rfl⟩ k
theorem r_dup2 {v u : Value} (hd : decode cc pc = .ok (.dup2, 1)) (hv : v.category = 1) (hu : u.category = 1) (k : xR call ex X y cc ret (pc + 1) ls (v :: u :: v :: u :: st) S Q) : xR call ex X y cc ret pc ls (v :: u :: st) S Q := r_step ⟨_, _, hd, rfl, ⟨rfl, rfl, rfl⟩, Or.inl ⟨v, u, st, hv, hu, rfl, rfl⟩⟩ k
theorem r_dup2l {x : Int64} (hd : decode cc pc = .ok (.dup2, 1)) (k : xR call ex X y cc ret (pc + 1) ls (.long x :: .long x :: st) S Q) : xR call ex X y cc ret pc ls (.long x :: st) S Q := r_step ⟨_, _, hd, rfl, ⟨rfl, rfl, rfl⟩, Or.inr ⟨.long x, st, rfl, rfl, rfl⟩⟩ k
theorem r_pop {v : Value} (hd : decode cc pc = .ok (.pop, 1)) (hv : v.category = 1) (k : xR call ex X y cc ret (pc + 1) ls st S Q) : xR call ex X y cc ret pc ls (v :: st) S Q := r_step ⟨_, _, hd, rfl, ⟨rfl, rfl, rfl⟩, v, hv, rfl⟩ k
theorem r_goto (tgt : Nat) {off : Int} (hd : decode cc pc = .ok (.goto off, 3)) (ht : (pc : Int) + off = (tgt : Int)) (k : xR call ex X y cc ret tgt ls st S Q) : xR call ex X y cc ret pc ls st S Q := r_step ⟨_, _, hd, rfl, rfl, rfl, rfl, ht⟩ k
theorem r_if_eq (tgt : Nat) {x : Int32} {off : Int} (hd : decode cc pc = .ok (.ifCond .eq off, 3)) (ht : (pc : Int) + off = (tgt : Int)) (kt : x = 0 → xR call ex X y cc ret tgt ls st S Q) (kf : ¬ (x = 0) → xR call ex X y cc ret (pc + 3) ls st S Q) : xR call ex X y cc ret pc ls (.int x :: st) S Q := by
  by_cases h : x = 0
  · exact r_step ⟨_, _, hd, rfl, rfl, rfl, x, rfl, Or.inl ⟨h, ht⟩⟩ (kt h)
  · exact r_step ⟨_, _, hd, rfl, rfl, rfl, x, rfl, Or.inr ⟨h, ⟨tgt, ht⟩, rfl⟩⟩ (kf h)
theorem r_ic_eq (tgt : Nat) {x z : Int32} {off : Int} (hd : decode cc pc = .ok (.if_icmp .eq off, 3)) (ht : (pc : Int) + off = (tgt : Int)) (kt : x = z → xR call ex X y cc ret tgt ls st S Q) (kf : ¬ (x = z) → xR call ex X y cc ret (pc + 3) ls st S Q) : xR call ex X y cc ret pc ls (.int z :: .int x :: st) S Q := by
  by_cases h : x = z
  · exact r_step ⟨_, _, hd, rfl, rfl, rfl, x, z, rfl, Or.inl ⟨h, ht⟩⟩ (kt h)
  · exact r_step ⟨_, _, hd, rfl, rfl, rfl, x, z, rfl, Or.inr ⟨h, ⟨tgt, ht⟩, rfl⟩⟩ (kf h)
theorem r_if_ne (tgt : Nat) {x : Int32} {off : Int} (hd : decode cc pc = .ok (.ifCond .ne off, 3)) (ht : (pc : Int) + off = (tgt : Int)) (kt : ¬ x = 0 → xR call ex X y cc ret tgt ls st S Q) (kf : x = 0 → xR call ex X y cc ret (pc + 3) ls st S Q) : xR call ex X y cc ret pc ls (.int x :: st) S Q := by
  by_cases h : ¬ x = 0
  · exact r_step ⟨_, _, hd, rfl, rfl, rfl, x, rfl, Or.inl ⟨h, ht⟩⟩ (kt h)
  · exact r_step ⟨_, _, hd, rfl, rfl, rfl, x, rfl, Or.inr ⟨h, ⟨tgt, ht⟩, rfl⟩⟩ (kf (Decidable.not_not.mp h))
theorem r_ic_ne (tgt : Nat) {x z : Int32} {off : Int} (hd : decode cc pc = .ok (.if_icmp .ne off, 3)) (ht : (pc : Int) + off = (tgt : Int)) (kt : ¬ x = z → xR call ex X y cc ret tgt ls st S Q) (kf : x = z → xR call ex X y cc ret (pc + 3) ls st S Q) : xR call ex X y cc ret pc ls (.int z :: .int x :: st) S Q := by
  by_cases h : ¬ x = z
  · exact r_step ⟨_, _, hd, rfl, rfl, rfl, x, z, rfl, Or.inl ⟨h, ht⟩⟩ (kt h)
  · exact r_step ⟨_, _, hd, rfl, rfl, rfl, x, z, rfl, Or.inr ⟨h, ⟨tgt, ht⟩, rfl⟩⟩ (kf (Decidable.not_not.mp h))
theorem r_if_lt (tgt : Nat) {x : Int32} {off : Int} (hd : decode cc pc = .ok (.ifCond .lt off, 3)) (ht : (pc : Int) + off = (tgt : Int)) (kt : x < 0 → xR call ex X y cc ret tgt ls st S Q) (kf : ¬ (x < 0) → xR call ex X y cc ret (pc + 3) ls st S Q) : xR call ex X y cc ret pc ls (.int x :: st) S Q := by
  by_cases h : x < 0
  · exact r_step ⟨_, _, hd, rfl, rfl, rfl, x, rfl, Or.inl ⟨h, ht⟩⟩ (kt h)
  · exact r_step ⟨_, _, hd, rfl, rfl, rfl, x, rfl, Or.inr ⟨h, ⟨tgt, ht⟩, rfl⟩⟩ (kf h)
theorem r_ic_lt (tgt : Nat) {x z : Int32} {off : Int} (hd : decode cc pc = .ok (.if_icmp .lt off, 3)) (ht : (pc : Int) + off = (tgt : Int)) (kt : x < z → xR call ex X y cc ret tgt ls st S Q) (kf : ¬ (x < z) → xR call ex X y cc ret (pc + 3) ls st S Q) : xR call ex X y cc ret pc ls (.int z :: .int x :: st) S Q := by
  by_cases h : x < z
  · exact r_step ⟨_, _, hd, rfl, rfl, rfl, x, z, rfl, Or.inl ⟨h, ht⟩⟩ (kt h)
  · exact r_step ⟨_, _, hd, rfl, rfl, rfl, x, z, rfl, Or.inr ⟨h, ⟨tgt, ht⟩, rfl⟩⟩ (kf h)
theorem r_if_ge (tgt : Nat) {x : Int32} {off : Int} (hd : decode cc pc = .ok (.ifCond .ge off, 3)) (ht : (pc : Int) + off = (tgt : Int)) (kt : 0 ≤ x → xR call ex X y cc ret tgt ls st S Q) (kf : ¬ (0 ≤ x) → xR call ex X y cc ret (pc + 3) ls st S Q) : xR call ex X y cc ret pc ls (.int x :: st) S Q := by
  by_cases h : 0 ≤ x
  · exact r_step ⟨_, _, hd, rfl, rfl, rfl, x, rfl, Or.inl ⟨h, ht⟩⟩ (kt h)
  · exact r_step ⟨_, _, hd, rfl, rfl, rfl, x, rfl, Or.inr ⟨h, ⟨tgt, ht⟩, rfl⟩⟩ (kf h)
theorem r_ic_ge (tgt : Nat) {x z : Int32} {off : Int} (hd : decode cc pc = .ok (.if_icmp .ge off, 3)) (ht : (pc : Int) + off = (tgt : Int)) (kt : z ≤ x → xR call ex X y cc ret tgt ls st S Q) (kf : ¬ (z ≤ x) → xR call ex X y cc ret (pc + 3) ls st S Q) : xR call ex X y cc ret pc ls (.int z :: .int x :: st) S Q := by
  by_cases h : z ≤ x
  · exact r_step ⟨_, _, hd, rfl, rfl, rfl, x, z, rfl, Or.inl ⟨h, ht⟩⟩ (kt h)
  · exact r_step ⟨_, _, hd, rfl, rfl, rfl, x, z, rfl, Or.inr ⟨h, ⟨tgt, ht⟩, rfl⟩⟩ (kf h)
theorem r_if_gt (tgt : Nat) {x : Int32} {off : Int} (hd : decode cc pc = .ok (.ifCond .gt off, 3)) (ht : (pc : Int) + off = (tgt : Int)) (kt : 0 < x → xR call ex X y cc ret tgt ls st S Q) (kf : ¬ (0 < x) → xR call ex X y cc ret (pc + 3) ls st S Q) : xR call ex X y cc ret pc ls (.int x :: st) S Q := by
  by_cases h : 0 < x
  · exact r_step ⟨_, _, hd, rfl, rfl, rfl, x, rfl, Or.inl ⟨h, ht⟩⟩ (kt h)
  · exact r_step ⟨_, _, hd, rfl, rfl, rfl, x, rfl, Or.inr ⟨h, ⟨tgt, ht⟩, rfl⟩⟩ (kf h)
theorem r_ic_gt (tgt : Nat) {x z : Int32} {off : Int} (hd : decode cc pc = .ok (.if_icmp .gt off, 3)) (ht : (pc : Int) + off = (tgt : Int)) (kt : z < x → xR call ex X y cc ret tgt ls st S Q) (kf : ¬ (z < x) → xR call ex X y cc ret (pc + 3) ls st S Q) : xR call ex X y cc ret pc ls (.int z :: .int x :: st) S Q := by
  by_cases h : z < x
  · exact r_step ⟨_, _, hd, rfl, rfl, rfl, x, z, rfl, Or.inl ⟨h, ht⟩⟩ (kt h)
  · exact r_step ⟨_, _, hd, rfl, rfl, rfl, x, z, rfl, Or.inr ⟨h, ⟨tgt, ht⟩, rfl⟩⟩ (kf h)
theorem r_if_le (tgt : Nat) {x : Int32} {off : Int} (hd : decode cc pc = .ok (.ifCond .le off, 3)) (ht : (pc : Int) + off = (tgt : Int)) (kt : x ≤ 0 → xR call ex X y cc ret tgt ls st S Q) (kf : ¬ (x ≤ 0) → xR call ex X y cc ret (pc + 3) ls st S Q) : xR call ex X y cc ret pc ls (.int x :: st) S Q := by
  by_cases h : x ≤ 0
  · exact r_step ⟨_, _, hd, rfl, rfl, rfl, x, rfl, Or.inl ⟨h, ht⟩⟩ (kt h)
  · exact r_step ⟨_, _, hd, rfl, rfl, rfl, x, rfl, Or.inr ⟨h, ⟨tgt, ht⟩, rfl⟩⟩ (kf h)
theorem r_ic_le (tgt : Nat) {x z : Int32} {off : Int} (hd : decode cc pc = .ok (.if_icmp .le off, 3)) (ht : (pc : Int) + off = (tgt : Int)) (kt : x ≤ z → xR call ex X y cc ret tgt ls st S Q) (kf : ¬ (x ≤ z) → xR call ex X y cc ret (pc + 3) ls st S Q) : xR call ex X y cc ret pc ls (.int z :: .int x :: st) S Q := by
  by_cases h : x ≤ z
  · exact r_step ⟨_, _, hd, rfl, rfl, rfl, x, z, rfl, Or.inl ⟨h, ht⟩⟩ (kt h)
  · exact r_step ⟨_, _, hd, rfl, rfl, rfl, x, z, rfl, Or.inr ⟨h, ⟨tgt, ht⟩, rfl⟩⟩ (kf h)
theorem r_tsO (tgt : Nat) {x : Int32} {d lo hi : Int} {offs : Array Int} {len : Nat} (hd : decode cc pc = .ok (.tableswitch d lo hi offs, len)) (hx : x.toInt < lo ∨ hi < x.toInt) (ht : (pc : Int) + d = (tgt : Int)) (k : xR call ex X y cc ret tgt ls st S Q) : xR call ex X y cc ret pc ls (.int x :: st) S Q := r_step ⟨_, _, hd, rfl, rfl, x, rfl, Or.inl ⟨hx, ht⟩⟩ k
theorem r_tsI (tgt : Nat) {x : Int32} {d lo hi : Int} {offs : Array Int} {len : Nat} {off : Int} (hd : decode cc pc = .ok (.tableswitch d lo hi offs, len)) (h1 : ¬ x.toInt < lo) (h2 : ¬ hi < x.toInt) (ho : offs[(x.toInt - lo).toNat]? = some off) (ht : (pc : Int) + off = (tgt : Int)) (k : xR call ex X y cc ret tgt ls st S Q) : xR call ex X y cc ret pc ls (.int x :: st) S Q := r_step ⟨_, _, hd, rfl, rfl, x, rfl, Or.inr ⟨h1, h2, off, ho, ht⟩⟩ k
theorem r_getI {idx ci k : Nat} {ty : FieldType} {N a : Nat} (hd : decode cc pc = .ok (.getfield idx, 3)) (hf : xFl y.cls idx ci k ty) (hs : sh[a]? = some (.inl ci, N)) (hk : k < N) (hz : xfk ci k = 0) (kk : xR call ex X y cc ret (pc + 3) ls (.int (I a k) :: st) (sh, I, J, P) Q) : xR call ex X y cc ret pc ls (.ref a :: st) (sh, I, J, P) Q := r_step ⟨_, _, hd, rfl, ⟨rfl, rfl, rfl⟩, ci, k, ty, N, a, st, hf, hs, hk, rfl, by simp [xav, hz, gI, gJ]⟩ kk
theorem r_getJ {idx ci k : Nat} {ty : FieldType} {N a : Nat} (hd : decode cc pc = .ok (.getfield idx, 3)) (hf : xFl y.cls idx ci k ty) (hs : sh[a]? = some (.inl ci, N)) (hk : k < N) (hz : xfk ci k = 1) (kk : xR call ex X y cc ret (pc + 3) ls (.long (J a k) :: st) (sh, I, J, P) Q) : xR call ex X y cc ret pc ls (.ref a :: st) (sh, I, J, P) Q := r_step ⟨_, _, hd, rfl, ⟨rfl, rfl, rfl⟩, ci, k, ty, N, a, st, hf, hs, hk, rfl, by simp [xav, hz, gI, gJ]⟩ kk
theorem r_getR {idx ci k : Nat} {ty : FieldType} {N a : Nat} (hd : decode cc pc = .ok (.getfield idx, 3)) (hf : xFl y.cls idx ci k ty) (hs : sh[a]? = some (.inl ci, N)) (hk : k < N) (hz : xfk ci k = 2) {v : Nat} (hv : P a k = v + 1) (kk : xR call ex X y cc ret (pc + 3) ls (.ref v :: st) (sh, I, J, P) Q) : xR call ex X y cc ret pc ls (.ref a :: st) (sh, I, J, P) Q := r_step ⟨_, _, hd, rfl, ⟨rfl, rfl, rfl⟩, ci, k, ty, N, a, st, hf, hs, hk, rfl, by simp [xav, hz, gP, hv, xrv]⟩ kk
theorem r_putI {idx ci k : Nat} {ty : FieldType} {N a : Nat} (hd : decode cc pc = .ok (.putfield idx, 3)) (hf : xFl y.cls idx ci k ty) (hn : xFin y ci k) (hs : sh[a]? = some (.inl ci, N)) (hk : k < N) (hz : xfk ci k = 0) {x : Int32} (h1 : narrow ty (.int x) = .int x) (h2 : fits ty (.int x) = true) (kk : xR call ex X y cc ret (pc + 3) ls st (sh, xu I a k x, J, P) Q) : xR call ex X y cc ret pc ls (.int x :: .ref a :: st) (sh, I, J, P) Q := r_step ⟨_, _, hd, rfl, rfl, rfl, ci, k, ty, N, a, .int x, hf, hn, hs, hk, rfl, hz, h1, h2, rfl⟩ kk
theorem r_putJ {idx ci k : Nat} {ty : FieldType} {N a : Nat} (hd : decode cc pc = .ok (.putfield idx, 3)) (hf : xFl y.cls idx ci k ty) (hn : xFin y ci k) (hs : sh[a]? = some (.inl ci, N)) (hk : k < N) (hz : xfk ci k = 1) (ht : ty = .long) {x : Int64} (kk : xR call ex X y cc ret (pc + 3) ls st (sh, I, xu J a k x, P) Q) : xR call ex X y cc ret pc ls (.long x :: .ref a :: st) (sh, I, J, P) Q := r_step ⟨_, _, hd, rfl, rfl, rfl, ci, k, ty, N, a, .long x, hf, hn, hs, hk, rfl, hz, ht, rfl⟩ kk
theorem r_putR {idx ci k : Nat} {ty : FieldType} {N a : Nat} (hd : decode cc pc = .ok (.putfield idx, 3)) (hf : xFl y.cls idx ci k ty) (hn : xFin y ci k) (hs : sh[a]? = some (.inl ci, N)) (hk : k < N) (hz : xfk ci k = 2) {q : Nat} (h2 : fits ty (.ref 0) = true) (kk : xR call ex X y cc ret (pc + 3) ls st (sh, I, J, xu P a k (q + 1)) Q) : xR call ex X y cc ret pc ls (.ref q :: .ref a :: st) (sh, I, J, P) Q := r_step ⟨_, _, hd, rfl, rfl, rfl, ci, k, ty, N, a, .ref q, hf, hn, hs, hk, rfl, hz, h2, rfl⟩ kk
theorem r_ial {i : Int32} {a n : Nat} (hd : decode cc pc = .ok (.iaload, 1)) (hs : sh[a]? = some (.inr 0, n)) (hi : vp_in i n) (kk : xR call ex X y cc ret (pc + 1) ls (.int (I a i.toNatClampNeg) :: st) (sh, I, J, P) Q) : xR call ex X y cc ret pc ls (.int i :: .ref a :: st) (sh, I, J, P) Q := r_step ⟨_, _, hd, rfl, ⟨rfl, rfl, rfl⟩, i, st, Or.inl ⟨a, n, rfl, hs, hi, rfl⟩⟩ kk
theorem r_ialX {i : Int32} {z L : Nat} {xs : Nat → Int32} (hd : decode cc pc = .ok (.iaload, 1)) (hX : X = some (L, xs)) (hi : vp_in i L) (kk : xR call ex X y cc ret (pc + 1) ls (.int (xs i.toNatClampNeg) :: st) (sh, I, J, P) Q) : xR call ex X y cc ret pc ls (.int i :: .retAddr z :: st) (sh, I, J, P) Q := r_step ⟨_, _, hd, rfl, ⟨rfl, rfl, rfl⟩, i, st, Or.inr ⟨z, L, xs, hX, rfl, hi, rfl⟩⟩ kk
theorem r_bal {i : Int32} {a n : Nat} (hd : decode cc pc = .ok (.baload, 1)) (hs : sh[a]? = some (.inr 1, n)) (hi : vp_in i n) (kk : xR call ex X y cc ret (pc + 1) ls (.int (I a i.toNatClampNeg) :: st) (sh, I, J, P) Q) : xR call ex X y cc ret pc ls (.int i :: .ref a :: st) (sh, I, J, P) Q := r_step ⟨_, _, hd, rfl, ⟨rfl, rfl, rfl⟩, i, st, a, n, 1, Or.inl rfl, rfl, hs, hi, rfl⟩ kk
theorem r_zal {i : Int32} {a n : Nat} (hd : decode cc pc = .ok (.baload, 1)) (hs : sh[a]? = some (.inr 2, n)) (hi : vp_in i n) (kk : xR call ex X y cc ret (pc + 1) ls (.int (I a i.toNatClampNeg) :: st) (sh, I, J, P) Q) : xR call ex X y cc ret pc ls (.int i :: .ref a :: st) (sh, I, J, P) Q := r_step ⟨_, _, hd, rfl, ⟨rfl, rfl, rfl⟩, i, st, a, n, 2, Or.inr rfl, rfl, hs, hi, rfl⟩ kk
theorem r_lal {i : Int32} {a n : Nat} (hd : decode cc pc = .ok (.laload, 1)) (hs : sh[a]? = some (.inr 3, n)) (hi : vp_in i n) (kk : xR call ex X y cc ret (pc + 1) ls (.long (J a i.toNatClampNeg) :: st) (sh, I, J, P) Q) : xR call ex X y cc ret pc ls (.int i :: .ref a :: st) (sh, I, J, P) Q := r_step ⟨_, _, hd, rfl, ⟨rfl, rfl, rfl⟩, i, st, a, n, rfl, hs, hi, rfl⟩ kk
theorem r_aal {i : Int32} {a n v : Nat} (hd : decode cc pc = .ok (.aaload, 1)) (hs : sh[a]? = some (.inr 4, n)) (hi : vp_in i n) (hv : P a i.toNatClampNeg = v + 1) (kk : xR call ex X y cc ret (pc + 1) ls (.ref v :: st) (sh, I, J, P) Q) : xR call ex X y cc ret pc ls (.int i :: .ref a :: st) (sh, I, J, P) Q := r_step ⟨_, _, hd, rfl, ⟨rfl, rfl, rfl⟩, i, st, a, n, rfl, hs, hi, by simp [gP, hv, xrv]⟩ kk
theorem r_ias {i x : Int32} {a n : Nat} (hd : decode cc pc = .ok (.iastore, 1)) (hs : sh[a]? = some (.inr 0, n)) (hi : vp_in i n) (kk : xR call ex X y cc ret (pc + 1) ls st (sh, xu I a i.toNatClampNeg x, J, P) Q) : xR call ex X y cc ret pc ls (.int x :: .int i :: .ref a :: st) (sh, I, J, P) Q := r_step ⟨_, _, hd, rfl, rfl, rfl, x, i, a, n, rfl, hs, hi, rfl⟩ kk
theorem r_bas {i x : Int32} {a n : Nat} (hd : decode cc pc = .ok (.bastore, 1)) (hs : sh[a]? = some (.inr 1, n)) (hi : vp_in i n) (kk : xR call ex X y cc ret (pc + 1) ls st (sh, xu I a i.toNatClampNeg (vp_nar .byte x), J, P) Q) : xR call ex X y cc ret pc ls (.int x :: .int i :: .ref a :: st) (sh, I, J, P) Q := r_step ⟨_, _, hd, rfl, rfl, rfl, x, i, a, n, rfl, hi, Or.inl ⟨hs, rfl⟩⟩ kk
theorem r_zas {i x : Int32} {a n : Nat} (hd : decode cc pc = .ok (.bastore, 1)) (hs : sh[a]? = some (.inr 2, n)) (hi : vp_in i n) (kk : xR call ex X y cc ret (pc + 1) ls st (sh, xu I a i.toNatClampNeg (vp_nar .boolean x), J, P) Q) : xR call ex X y cc ret pc ls (.int x :: .int i :: .ref a :: st) (sh, I, J, P) Q := r_step ⟨_, _, hd, rfl, rfl, rfl, x, i, a, n, rfl, hi, Or.inr ⟨hs, rfl⟩⟩ kk
theorem r_las {i : Int32} {x : Int64} {a n : Nat} (hd : decode cc pc = .ok (.lastore, 1)) (hs : sh[a]? = some (.inr 3, n)) (hi : vp_in i n) (kk : xR call ex X y cc ret (pc + 1) ls st (sh, I, xu J a i.toNatClampNeg x, P) Q) : xR call ex X y cc ret pc ls (.long x :: .int i :: .ref a :: st) (sh, I, J, P) Q := r_step ⟨_, _, hd, rfl, rfl, rfl, x, i, a, n, rfl, hs, hi, rfl⟩ kk
theorem r_aas {i : Int32} {q a n N : Nat} (hd : decode cc pc = .ok (.aastore, 1)) (hs : sh[a]? = some (.inr 4, n)) (hq : sh[q]? = some (.inl 0, N)) (hi : vp_in i n) (kk : xR call ex X y cc ret (pc + 1) ls st (sh, I, J, xu P a i.toNatClampNeg (q + 1)) Q) : xR call ex X y cc ret pc ls (.ref q :: .int i :: .ref a :: st) (sh, I, J, P) Q := r_step ⟨_, _, hd, rfl, rfl, rfl, q, i, a, n, N, rfl, hs, hq, hi, rfl⟩ kk
theorem r_alen {a j n : Nat} (hd : decode cc pc = .ok (.arraylength, 1)) (hs : sh[a]? = some (.inr j, n)) (kk : xR call ex X y cc ret (pc + 1) ls (.int (Int32.ofNat n) :: st) (sh, I, J, P) Q) : xR call ex X y cc ret pc ls (.ref a :: st) (sh, I, J, P) Q := r_step ⟨_, _, hd, rfl, ⟨rfl, rfl, rfl⟩, st, Or.inl ⟨a, j, n, rfl, hs, rfl⟩⟩ kk
theorem r_alenX {z L : Nat} {xs : Nat → Int32} (hd : decode cc pc = .ok (.arraylength, 1)) (hX : X = some (L, xs)) (kk : xR call ex X y cc ret (pc + 1) ls (.int (Int32.ofNat L) :: st) (sh, I, J, P) Q) : xR call ex X y cc ret pc ls (.retAddr z :: st) (sh, I, J, P) Q := r_step ⟨_, _, hd, rfl, ⟨rfl, rfl, rfl⟩, st, Or.inr ⟨z, L, xs, hX, rfl, rfl⟩⟩ kk
theorem r_new {idx ci N : Nat} (hd : decode cc pc = .ok (.new idx, 3)) (he : ex = true) (hl : xNl y.cls idx ci N) {q : Nat} (hq : sh.length = q) (kk : xR call ex X y cc ret (pc + 3) ls (.ref q :: st) (xsn (.inl ci) N sh, xzn I sh, xzn J sh, xzn P sh) Q) : xR call ex X y cc ret pc ls st (sh, I, J, P) Q := by subst hq; exact r_step ⟨_, _, hd, rfl, rfl, rfl, he, ci, N, hl, rfl, rfl⟩ kk
theorem r_newa {a : ArrayType} {j : Nat} {n : Int32} {m : Nat} (hd : decode cc pc = .ok (.newarray a, 2)) (he : ex = true) (hn : ¬ n < 0) (hm : n.toNatClampNeg = m) (hle : m ≤ 1000000) (hj : xat a = some j) {q : Nat} (hq : sh.length = q) (kk : xR call ex X y cc ret (pc + 2) ls (.ref q :: st) (xsn (.inr j) m sh, xzn I sh, xzn J sh, xzn P sh) Q) : xR call ex X y cc ret pc ls (.int n :: st) (sh, I, J, P) Q := by subst hq; subst hm; exact r_step ⟨_, _, hd, rfl, rfl, rfl, he, n, st, j, rfl, hn, hle, hj, rfl, rfl⟩ kk
theorem r_anew {idx : Nat} {n : Int32} {m : Nat} (hd : decode cc pc = .ok (.anewarray idx, 3)) (he : ex = true) (hl : Cond.classLink y.cls idx RX0 ∈ xgw) (hn : ¬ n < 0) (hm : n.toNatClampNeg = m) (hle : m ≤ 1000000) {q : Nat} (hq : sh.length = q) (kk : xR call ex X y cc ret (pc + 3) ls (.ref q :: st) (xsn (.inr 4) m sh, xzn I sh, xzn J sh, xzn P sh) Q) : xR call ex X y cc ret pc ls (.int n :: st) (sh, I, J, P) Q := by subst hq; subst hm; exact r_step ⟨_, _, hd, rfl, rfl, rfl, he, hl, n, st, rfl, hn, hle, rfl, rfl⟩ kk
theorem r_oi {idx a : Nat} (hd : decode cc pc = .ok (.invokespecial idx, 3)) (hl : Cond.methodLink y.cls idx objectInit ∈ xgw) (hc : (st.map fun v => v.category).sum ≤ 8) (kk : xR call ex X y cc ret (pc + 3) ls st (sh, I, J, P) Q) : xR call ex X y cc ret pc ls (.ref a :: st) (sh, I, J, P) Q := r_step ⟨_, _, hd, rfl, rfl, rfl, Or.inr ⟨hl, rfl, a, rfl, hc⟩⟩ kk
theorem r_ac {idx : Nat} {n dp sp : Int32} {a0 a1 n0 n1 : Nat} (hd : decode cc pc = .ok (.invokestatic idx, 3)) (hl : Cond.methodLink y.cls idx arraycopyName ∈ xgw) (hs0 : sh[a0]? = some (.inr 0, n0)) (hs1 : sh[a1]? = some (.inr 0, n1)) (h1 : ¬ sp < 0) (h2 : ¬ dp < 0) (h3 : ¬ n < 0) (h4 : sp.toNatClampNeg + n.toNatClampNeg ≤ n0) (h5 : dp.toNatClampNeg + n.toNatClampNeg ≤ n1) (hc : (st.map fun v => v.category).sum ≤ 8) (kk : xR call ex X y cc ret (pc + 3) ls st (sh, xcp I a0 sp.toNatClampNeg a1 dp.toNatClampNeg n.toNatClampNeg, J, P) Q) : xR call ex X y cc ret pc ls (.int n :: .int dp :: .ref a1 :: .int sp :: .ref a0 :: st) (sh, I, J, P) Q := r_step ⟨_, _, hd, rfl, rfl, rfl, Or.inr (Or.inl ⟨hl, n, dp, sp, a0, a1, n0, n1, rfl, hs0, hs1, h1, h2, h3, h4, h5, hc, rfl⟩)⟩ kk
theorem r_mmax {idx : Nat} {x z : Int32} (hd : decode cc pc = .ok (.invokestatic idx, 3)) (hl : Cond.methodLink y.cls idx Lib.Math.max.name ∈ xgw) (hc : (st.map fun v => v.category).sum ≤ 8) (kk : xR call ex X y cc ret (pc + 3) ls (.int (if x < z then z else x) :: st) S Q) : xR call ex X y cc ret pc ls (.int z :: .int x :: st) S Q := r_step ⟨_, _, hd, rfl, rfl, rfl, Or.inr (Or.inr ⟨rfl, Or.inl ⟨hl, x, z, st, rfl, rfl, hc⟩⟩)⟩ kk
theorem r_mmin {idx : Nat} {x z : Int32} (hd : decode cc pc = .ok (.invokestatic idx, 3)) (hl : Cond.methodLink y.cls idx Lib.Math.min.name ∈ xgw) (hc : (st.map fun v => v.category).sum ≤ 8) (kk : xR call ex X y cc ret (pc + 3) ls (.int (if z < x then z else x) :: st) S Q) : xR call ex X y cc ret pc ls (.int z :: .int x :: st) S Q := r_step ⟨_, _, hd, rfl, rfl, rfl, Or.inr (Or.inr ⟨rfl, Or.inr (Or.inl ⟨hl, x, z, st, rfl, rfl, hc⟩)⟩)⟩ kk
theorem r_mabs {idx : Nat} {x : Int64} (hd : decode cc pc = .ok (.invokestatic idx, 3)) (hl : Cond.methodLink y.cls idx Lib.MathLoose.abs_long.x ∈ xgw) (hc : (st.map fun v => v.category).sum ≤ 8) (kk : xR call ex X y cc ret (pc + 3) ls (.long (if 0 < x then x else -x) :: st) S Q) : xR call ex X y cc ret pc ls (.long x :: st) S Q := r_step ⟨_, _, hd, rfl, rfl, rfl, Or.inr (Or.inr ⟨rfl, Or.inr (Or.inr ⟨hl, x, st, rfl, rfl, hc⟩)⟩)⟩ kk
theorem r_cV0i {idx ci N a : Nat} {y2 : MethodName}  {q : Int32} {S1 : xS} (hd : decode cc pc = .ok (.invokevirtual idx, 3)) (hl : xVl y.cls idx y2 0 ci) (hs : S.1[a]? = some (.inl ci, N)) (hc : (st.map fun v => v.category).sum ≤ 8) (h : call y2 (.ref a :: []) S (some (.int q)) S1) (kk : xR call ex X y cc ret (pc + 3) ls (.int q :: st) S1 Q) : xR call ex X y cc ret pc ls (.ref a :: st) S Q := r_step ⟨_, _, hd, rfl, rfl, rfl, y2, 0, ci, [], a, N, st, (some (.int q)), hl, hs, rfl, rfl, hc, h, rfl⟩ kk
theorem r_cS0i {idx : Nat} {y2 : MethodName}  {q : Int32} {S1 : xS} (hd : decode cc pc = .ok (.invokestatic idx, 3)) (hl : xSl y.cls idx y2 0) (hc : (st.map fun v => v.category).sum ≤ 8) (h : call y2 [] S (some (.int q)) S1) (kk : xR call ex X y cc ret (pc + 3) ls (.int q :: st) S1 Q) : xR call ex X y cc ret pc ls (st) S Q := r_step ⟨_, _, hd, rfl, rfl, rfl, Or.inl ⟨y2, 0, [], st, (some (.int q)), hl, rfl, rfl, hc, h, rfl⟩⟩ kk
theorem r_cV0v {idx ci N a : Nat} {y2 : MethodName}   {S1 : xS} (hd : decode cc pc = .ok (.invokevirtual idx, 3)) (hl : xVl y.cls idx y2 0 ci) (hs : S.1[a]? = some (.inl ci, N)) (hc : (st.map fun v => v.category).sum ≤ 8) (h : call y2 (.ref a :: []) S none S1) (kk : xR call ex X y cc ret (pc + 3) ls st S1 Q) : xR call ex X y cc ret pc ls (.ref a :: st) S Q := r_step ⟨_, _, hd, rfl, rfl, rfl, y2, 0, ci, [], a, N, st, none, hl, hs, rfl, rfl, hc, h, rfl⟩ kk
theorem r_cS0v {idx : Nat} {y2 : MethodName}   {S1 : xS} (hd : decode cc pc = .ok (.invokestatic idx, 3)) (hl : xSl y.cls idx y2 0) (hc : (st.map fun v => v.category).sum ≤ 8) (h : call y2 [] S none S1) (kk : xR call ex X y cc ret (pc + 3) ls st S1 Q) : xR call ex X y cc ret pc ls (st) S Q := r_step ⟨_, _, hd, rfl, rfl, rfl, Or.inl ⟨y2, 0, [], st, none, hl, rfl, rfl, hc, h, rfl⟩⟩ kk
theorem r_cV0l {idx ci N a : Nat} {y2 : MethodName}  {q : Int64} {S1 : xS} (hd : decode cc pc = .ok (.invokevirtual idx, 3)) (hl : xVl y.cls idx y2 0 ci) (hs : S.1[a]? = some (.inl ci, N)) (hc : (st.map fun v => v.category).sum ≤ 8) (h : call y2 (.ref a :: []) S (some (.long q)) S1) (kk : xR call ex X y cc ret (pc + 3) ls (.long q :: st) S1 Q) : xR call ex X y cc ret pc ls (.ref a :: st) S Q := r_step ⟨_, _, hd, rfl, rfl, rfl, y2, 0, ci, [], a, N, st, (some (.long q)), hl, hs, rfl, rfl, hc, h, rfl⟩ kk
theorem r_cS0l {idx : Nat} {y2 : MethodName}  {q : Int64} {S1 : xS} (hd : decode cc pc = .ok (.invokestatic idx, 3)) (hl : xSl y.cls idx y2 0) (hc : (st.map fun v => v.category).sum ≤ 8) (h : call y2 [] S (some (.long q)) S1) (kk : xR call ex X y cc ret (pc + 3) ls (.long q :: st) S1 Q) : xR call ex X y cc ret pc ls (st) S Q := r_step ⟨_, _, hd, rfl, rfl, rfl, Or.inl ⟨y2, 0, [], st, (some (.long q)), hl, rfl, rfl, hc, h, rfl⟩⟩ kk
theorem r_cI0 {idx a : Nat} {y2 : MethodName}  {S1 : xS} (hd : decode cc pc = .ok (.invokespecial idx, 3)) (hl : xIl y.cls idx y2 0) (hc : (st.map fun v => v.category).sum ≤ 8) (h : call y2 (.ref a :: []) S none S1) (kk : xR call ex X y cc ret (pc + 3) ls st S1 Q) : xR call ex X y cc ret pc ls (.ref a :: st) S Q := r_step ⟨_, _, hd, rfl, rfl, rfl, Or.inl ⟨y2, 0, [], a, st, hl, rfl, rfl, hc, h, rfl⟩⟩ kk
theorem r_cV1i {idx ci N a : Nat} {y2 : MethodName} {v1 : Value} {q : Int32} {S1 : xS} (hd : decode cc pc = .ok (.invokevirtual idx, 3)) (hl : xVl y.cls idx y2 1 ci) (hs : S.1[a]? = some (.inl ci, N)) (hc : (st.map fun v => v.category).sum ≤ 8) (h : call y2 (.ref a :: [v1]) S (some (.int q)) S1) (kk : xR call ex X y cc ret (pc + 3) ls (.int q :: st) S1 Q) : xR call ex X y cc ret pc ls (v1 :: .ref a :: st) S Q := r_step ⟨_, _, hd, rfl, rfl, rfl, y2, 1, ci, [v1], a, N, st, (some (.int q)), hl, hs, rfl, rfl, hc, h, rfl⟩ kk
theorem r_cS1i {idx : Nat} {y2 : MethodName} {v1 : Value} {q : Int32} {S1 : xS} (hd : decode cc pc = .ok (.invokestatic idx, 3)) (hl : xSl y.cls idx y2 1) (hc : (st.map fun v => v.category).sum ≤ 8) (h : call y2 [v1] S (some (.int q)) S1) (kk : xR call ex X y cc ret (pc + 3) ls (.int q :: st) S1 Q) : xR call ex X y cc ret pc ls (v1 :: st) S Q := r_step ⟨_, _, hd, rfl, rfl, rfl, Or.inl ⟨y2, 1, [v1], st, (some (.int q)), hl, rfl, rfl, hc, h, rfl⟩⟩ kk
theorem r_cV1v {idx ci N a : Nat} {y2 : MethodName} {v1 : Value}  {S1 : xS} (hd : decode cc pc = .ok (.invokevirtual idx, 3)) (hl : xVl y.cls idx y2 1 ci) (hs : S.1[a]? = some (.inl ci, N)) (hc : (st.map fun v => v.category).sum ≤ 8) (h : call y2 (.ref a :: [v1]) S none S1) (kk : xR call ex X y cc ret (pc + 3) ls st S1 Q) : xR call ex X y cc ret pc ls (v1 :: .ref a :: st) S Q := r_step ⟨_, _, hd, rfl, rfl, rfl, y2, 1, ci, [v1], a, N, st, none, hl, hs, rfl, rfl, hc, h, rfl⟩ kk
theorem r_cS1v {idx : Nat} {y2 : MethodName} {v1 : Value}  {S1 : xS} (hd : decode cc pc = .ok (.invokestatic idx, 3)) (hl : xSl y.cls idx y2 1) (hc : (st.map fun v => v.category).sum ≤ 8) (h : call y2 [v1] S none S1) (kk : xR call ex X y cc ret (pc + 3) ls st S1 Q) : xR call ex X y cc ret pc ls (v1 :: st) S Q := r_step ⟨_, _, hd, rfl, rfl, rfl, Or.inl ⟨y2, 1, [v1], st, none, hl, rfl, rfl, hc, h, rfl⟩⟩ kk
theorem r_cV1l {idx ci N a : Nat} {y2 : MethodName} {v1 : Value} {q : Int64} {S1 : xS} (hd : decode cc pc = .ok (.invokevirtual idx, 3)) (hl : xVl y.cls idx y2 1 ci) (hs : S.1[a]? = some (.inl ci, N)) (hc : (st.map fun v => v.category).sum ≤ 8) (h : call y2 (.ref a :: [v1]) S (some (.long q)) S1) (kk : xR call ex X y cc ret (pc + 3) ls (.long q :: st) S1 Q) : xR call ex X y cc ret pc ls (v1 :: .ref a :: st) S Q := r_step ⟨_, _, hd, rfl, rfl, rfl, y2, 1, ci, [v1], a, N, st, (some (.long q)), hl, hs, rfl, rfl, hc, h, rfl⟩ kk
theorem r_cS1l {idx : Nat} {y2 : MethodName} {v1 : Value} {q : Int64} {S1 : xS} (hd : decode cc pc = .ok (.invokestatic idx, 3)) (hl : xSl y.cls idx y2 1) (hc : (st.map fun v => v.category).sum ≤ 8) (h : call y2 [v1] S (some (.long q)) S1) (kk : xR call ex X y cc ret (pc + 3) ls (.long q :: st) S1 Q) : xR call ex X y cc ret pc ls (v1 :: st) S Q := r_step ⟨_, _, hd, rfl, rfl, rfl, Or.inl ⟨y2, 1, [v1], st, (some (.long q)), hl, rfl, rfl, hc, h, rfl⟩⟩ kk
theorem r_cI1 {idx a : Nat} {y2 : MethodName} {v1 : Value} {S1 : xS} (hd : decode cc pc = .ok (.invokespecial idx, 3)) (hl : xIl y.cls idx y2 1) (hc : (st.map fun v => v.category).sum ≤ 8) (h : call y2 (.ref a :: [v1]) S none S1) (kk : xR call ex X y cc ret (pc + 3) ls st S1 Q) : xR call ex X y cc ret pc ls (v1 :: .ref a :: st) S Q := r_step ⟨_, _, hd, rfl, rfl, rfl, Or.inl ⟨y2, 1, [v1], a, st, hl, rfl, rfl, hc, h, rfl⟩⟩ kk
theorem r_cV2i {idx ci N a : Nat} {y2 : MethodName} {v1 v2 : Value} {q : Int32} {S1 : xS} (hd : decode cc pc = .ok (.invokevirtual idx, 3)) (hl : xVl y.cls idx y2 2 ci) (hs : S.1[a]? = some (.inl ci, N)) (hc : (st.map fun v => v.category).sum ≤ 8) (h : call y2 (.ref a :: [v1, v2]) S (some (.int q)) S1) (kk : xR call ex X y cc ret (pc + 3) ls (.int q :: st) S1 Q) : xR call ex X y cc ret pc ls (v2 :: v1 :: .ref a :: st) S Q := r_step ⟨_, _, hd, rfl, rfl, rfl, y2, 2, ci, [v1, v2], a, N, st, (some (.int q)), hl, hs, rfl, rfl, hc, h, rfl⟩ kk
theorem r_cS2i {idx : Nat} {y2 : MethodName} {v1 v2 : Value} {q : Int32} {S1 : xS} (hd : decode cc pc = .ok (.invokestatic idx, 3)) (hl : xSl y.cls idx y2 2) (hc : (st.map fun v => v.category).sum ≤ 8) (h : call y2 [v1, v2] S (some (.int q)) S1) (kk : xR call ex X y cc ret (pc + 3) ls (.int q :: st) S1 Q) : xR call ex X y cc ret pc ls (v2 :: v1 :: st) S Q := r_step ⟨_, _, hd, rfl, rfl, rfl, Or.inl ⟨y2, 2, [v1, v2], st, (some (.int q)), hl, rfl, rfl, hc, h, rfl⟩⟩ kk
theorem r_cV2v {idx ci N a : Nat} {y2 : MethodName} {v1 v2 : Value}  {S1 : xS} (hd : decode cc pc = .ok (.invokevirtual idx, 3)) (hl : xVl y.cls idx y2 2 ci) (hs : S.1[a]? = some (.inl ci, N)) (hc : (st.map fun v => v.category).sum ≤ 8) (h : call y2 (.ref a :: [v1, v2]) S none S1) (kk : xR call ex X y cc ret (pc + 3) ls st S1 Q) : xR call ex X y cc ret pc ls (v2 :: v1 :: .ref a :: st) S Q := r_step ⟨_, _, hd, rfl, rfl, rfl, y2, 2, ci, [v1, v2], a, N, st, none, hl, hs, rfl, rfl, hc, h, rfl⟩ kk
theorem r_cS2v {idx : Nat} {y2 : MethodName} {v1 v2 : Value}  {S1 : xS} (hd : decode cc pc = .ok (.invokestatic idx, 3)) (hl : xSl y.cls idx y2 2) (hc : (st.map fun v => v.category).sum ≤ 8) (h : call y2 [v1, v2] S none S1) (kk : xR call ex X y cc ret (pc + 3) ls st S1 Q) : xR call ex X y cc ret pc ls (v2 :: v1 :: st) S Q := r_step ⟨_, _, hd, rfl, rfl, rfl, Or.inl ⟨y2, 2, [v1, v2], st, none, hl, rfl, rfl, hc, h, rfl⟩⟩ kk
theorem r_cV2l {idx ci N a : Nat} {y2 : MethodName} {v1 v2 : Value} {q : Int64} {S1 : xS} (hd : decode cc pc = .ok (.invokevirtual idx, 3)) (hl : xVl y.cls idx y2 2 ci) (hs : S.1[a]? = some (.inl ci, N)) (hc : (st.map fun v => v.category).sum ≤ 8) (h : call y2 (.ref a :: [v1, v2]) S (some (.long q)) S1) (kk : xR call ex X y cc ret (pc + 3) ls (.long q :: st) S1 Q) : xR call ex X y cc ret pc ls (v2 :: v1 :: .ref a :: st) S Q := r_step ⟨_, _, hd, rfl, rfl, rfl, y2, 2, ci, [v1, v2], a, N, st, (some (.long q)), hl, hs, rfl, rfl, hc, h, rfl⟩ kk
theorem r_cS2l {idx : Nat} {y2 : MethodName} {v1 v2 : Value} {q : Int64} {S1 : xS} (hd : decode cc pc = .ok (.invokestatic idx, 3)) (hl : xSl y.cls idx y2 2) (hc : (st.map fun v => v.category).sum ≤ 8) (h : call y2 [v1, v2] S (some (.long q)) S1) (kk : xR call ex X y cc ret (pc + 3) ls (.long q :: st) S1 Q) : xR call ex X y cc ret pc ls (v2 :: v1 :: st) S Q := r_step ⟨_, _, hd, rfl, rfl, rfl, Or.inl ⟨y2, 2, [v1, v2], st, (some (.long q)), hl, rfl, rfl, hc, h, rfl⟩⟩ kk
theorem r_cI2 {idx a : Nat} {y2 : MethodName} {v1 v2 : Value} {S1 : xS} (hd : decode cc pc = .ok (.invokespecial idx, 3)) (hl : xIl y.cls idx y2 2) (hc : (st.map fun v => v.category).sum ≤ 8) (h : call y2 (.ref a :: [v1, v2]) S none S1) (kk : xR call ex X y cc ret (pc + 3) ls st S1 Q) : xR call ex X y cc ret pc ls (v2 :: v1 :: .ref a :: st) S Q := r_step ⟨_, _, hd, rfl, rfl, rfl, Or.inl ⟨y2, 2, [v1, v2], a, st, hl, rfl, rfl, hc, h, rfl⟩⟩ kk
theorem r_cV3i {idx ci N a : Nat} {y2 : MethodName} {v1 v2 v3 : Value} {q : Int32} {S1 : xS} (hd : decode cc pc = .ok (.invokevirtual idx, 3)) (hl : xVl y.cls idx y2 3 ci) (hs : S.1[a]? = some (.inl ci, N)) (hc : (st.map fun v => v.category).sum ≤ 8) (h : call y2 (.ref a :: [v1, v2, v3]) S (some (.int q)) S1) (kk : xR call ex X y cc ret (pc + 3) ls (.int q :: st) S1 Q) : xR call ex X y cc ret pc ls (v3 :: v2 :: v1 :: .ref a :: st) S Q := r_step ⟨_, _, hd, rfl, rfl, rfl, y2, 3, ci, [v1, v2, v3], a, N, st, (some (.int q)), hl, hs, rfl, rfl, hc, h, rfl⟩ kk
theorem r_cS3i {idx : Nat} {y2 : MethodName} {v1 v2 v3 : Value} {q : Int32} {S1 : xS} (hd : decode cc pc = .ok (.invokestatic idx, 3)) (hl : xSl y.cls idx y2 3) (hc : (st.map fun v => v.category).sum ≤ 8) (h : call y2 [v1, v2, v3] S (some (.int q)) S1) (kk : xR call ex X y cc ret (pc + 3) ls (.int q :: st) S1 Q) : xR call ex X y cc ret pc ls (v3 :: v2 :: v1 :: st) S Q := r_step ⟨_, _, hd, rfl, rfl, rfl, Or.inl ⟨y2, 3, [v1, v2, v3], st, (some (.int q)), hl, rfl, rfl, hc, h, rfl⟩⟩ kk
theorem r_cV3v {idx ci N a : Nat} {y2 : MethodName} {v1 v2 v3 : Value}  {S1 : xS} (hd : decode cc pc = .ok (.invokevirtual idx, 3)) (hl : xVl y.cls idx y2 3 ci) (hs : S.1[a]? = some (.inl ci, N)) (hc : (st.map fun v => v.category).sum ≤ 8) (h : call y2 (.ref a :: [v1, v2, v3]) S none S1) (kk : xR call ex X y cc ret (pc + 3) ls st S1 Q) : xR call ex X y cc ret pc ls (v3 :: v2 :: v1 :: .ref a :: st) S Q := r_step ⟨_, _, hd, rfl, rfl, rfl, y2, 3, ci, [v1, v2, v3], a, N, st, none, hl, hs, rfl, rfl, hc, h, rfl⟩ kk
theorem r_cS3v {idx : Nat} {y2 : MethodName} {v1 v2 v3 : Value}  {S1 : xS} (hd : decode cc pc = .ok (.invokestatic idx, 3)) (hl : xSl y.cls idx y2 3) (hc : (st.map fun v => v.category).sum ≤ 8) (h : call y2 [v1, v2, v3] S none S1) (kk : xR call ex X y cc ret (pc + 3) ls st S1 Q) : xR call ex X y cc ret pc ls (v3 :: v2 :: v1 :: st) S Q := r_step ⟨_, _, hd, rfl, rfl, rfl, Or.inl ⟨y2, 3, [v1, v2, v3], st, none, hl, rfl, rfl, hc, h, rfl⟩⟩ kk
theorem r_cV3l {idx ci N a : Nat} {y2 : MethodName} {v1 v2 v3 : Value} {q : Int64} {S1 : xS} (hd : decode cc pc = .ok (.invokevirtual idx, 3)) (hl : xVl y.cls idx y2 3 ci) (hs : S.1[a]? = some (.inl ci, N)) (hc : (st.map fun v => v.category).sum ≤ 8) (h : call y2 (.ref a :: [v1, v2, v3]) S (some (.long q)) S1) (kk : xR call ex X y cc ret (pc + 3) ls (.long q :: st) S1 Q) : xR call ex X y cc ret pc ls (v3 :: v2 :: v1 :: .ref a :: st) S Q := r_step ⟨_, _, hd, rfl, rfl, rfl, y2, 3, ci, [v1, v2, v3], a, N, st, (some (.long q)), hl, hs, rfl, rfl, hc, h, rfl⟩ kk
theorem r_cS3l {idx : Nat} {y2 : MethodName} {v1 v2 v3 : Value} {q : Int64} {S1 : xS} (hd : decode cc pc = .ok (.invokestatic idx, 3)) (hl : xSl y.cls idx y2 3) (hc : (st.map fun v => v.category).sum ≤ 8) (h : call y2 [v1, v2, v3] S (some (.long q)) S1) (kk : xR call ex X y cc ret (pc + 3) ls (.long q :: st) S1 Q) : xR call ex X y cc ret pc ls (v3 :: v2 :: v1 :: st) S Q := r_step ⟨_, _, hd, rfl, rfl, rfl, Or.inl ⟨y2, 3, [v1, v2, v3], st, (some (.long q)), hl, rfl, rfl, hc, h, rfl⟩⟩ kk
theorem r_cI3 {idx a : Nat} {y2 : MethodName} {v1 v2 v3 : Value} {S1 : xS} (hd : decode cc pc = .ok (.invokespecial idx, 3)) (hl : xIl y.cls idx y2 3) (hc : (st.map fun v => v.category).sum ≤ 8) (h : call y2 (.ref a :: [v1, v2, v3]) S none S1) (kk : xR call ex X y cc ret (pc + 3) ls st S1 Q) : xR call ex X y cc ret pc ls (v3 :: v2 :: v1 :: .ref a :: st) S Q := r_step ⟨_, _, hd, rfl, rfl, rfl, Or.inl ⟨y2, 3, [v1, v2, v3], a, st, hl, rfl, rfl, hc, h, rfl⟩⟩ kk
theorem r_cV4i {idx ci N a : Nat} {y2 : MethodName} {v1 v2 v3 v4 : Value} {q : Int32} {S1 : xS} (hd : decode cc pc = .ok (.invokevirtual idx, 3)) (hl : xVl y.cls idx y2 4 ci) (hs : S.1[a]? = some (.inl ci, N)) (hc : (st.map fun v => v.category).sum ≤ 8) (h : call y2 (.ref a :: [v1, v2, v3, v4]) S (some (.int q)) S1) (kk : xR call ex X y cc ret (pc + 3) ls (.int q :: st) S1 Q) : xR call ex X y cc ret pc ls (v4 :: v3 :: v2 :: v1 :: .ref a :: st) S Q := r_step ⟨_, _, hd, rfl, rfl, rfl, y2, 4, ci, [v1, v2, v3, v4], a, N, st, (some (.int q)), hl, hs, rfl, rfl, hc, h, rfl⟩ kk
theorem r_cS4i {idx : Nat} {y2 : MethodName} {v1 v2 v3 v4 : Value} {q : Int32} {S1 : xS} (hd : decode cc pc = .ok (.invokestatic idx, 3)) (hl : xSl y.cls idx y2 4) (hc : (st.map fun v => v.category).sum ≤ 8) (h : call y2 [v1, v2, v3, v4] S (some (.int q)) S1) (kk : xR call ex X y cc ret (pc + 3) ls (.int q :: st) S1 Q) : xR call ex X y cc ret pc ls (v4 :: v3 :: v2 :: v1 :: st) S Q := r_step ⟨_, _, hd, rfl, rfl, rfl, Or.inl ⟨y2, 4, [v1, v2, v3, v4], st, (some (.int q)), hl, rfl, rfl, hc, h, rfl⟩⟩ kk
theorem r_cV4v {idx ci N a : Nat} {y2 : MethodName} {v1 v2 v3 v4 : Value}  {S1 : xS} (hd : decode cc pc = .ok (.invokevirtual idx, 3)) (hl : xVl y.cls idx y2 4 ci) (hs : S.1[a]? = some (.inl ci, N)) (hc : (st.map fun v => v.category).sum ≤ 8) (h : call y2 (.ref a :: [v1, v2, v3, v4]) S none S1) (kk : xR call ex X y cc ret (pc + 3) ls st S1 Q) : xR call ex X y cc ret pc ls (v4 :: v3 :: v2 :: v1 :: .ref a :: st) S Q := r_step ⟨_, _, hd, rfl, rfl, rfl, y2, 4, ci, [v1, v2, v3, v4], a, N, st, none, hl, hs, rfl, rfl, hc, h, rfl⟩ kk
theorem r_cS4v {idx : Nat} {y2 : MethodName} {v1 v2 v3 v4 : Value}  {S1 : xS} (hd : decode cc pc = .ok (.invokestatic idx, 3)) (hl : xSl y.cls idx y2 4) (hc : (st.map fun v => v.category).sum ≤ 8) (h : call y2 [v1, v2, v3, v4] S none S1) (kk : xR call ex X y cc ret (pc + 3) ls st S1 Q) : xR call ex X y cc ret pc ls (v4 :: v3 :: v2 :: v1 :: st) S Q := r_step ⟨_, _, hd, rfl, rfl, rfl, Or.inl ⟨y2, 4, [v1, v2, v3, v4], st, none, hl, rfl, rfl, hc, h, rfl⟩⟩ kk
theorem r_cV4l {idx ci N a : Nat} {y2 : MethodName} {v1 v2 v3 v4 : Value} {q : Int64} {S1 : xS} (hd : decode cc pc = .ok (.invokevirtual idx, 3)) (hl : xVl y.cls idx y2 4 ci) (hs : S.1[a]? = some (.inl ci, N)) (hc : (st.map fun v => v.category).sum ≤ 8) (h : call y2 (.ref a :: [v1, v2, v3, v4]) S (some (.long q)) S1) (kk : xR call ex X y cc ret (pc + 3) ls (.long q :: st) S1 Q) : xR call ex X y cc ret pc ls (v4 :: v3 :: v2 :: v1 :: .ref a :: st) S Q := r_step ⟨_, _, hd, rfl, rfl, rfl, y2, 4, ci, [v1, v2, v3, v4], a, N, st, (some (.long q)), hl, hs, rfl, rfl, hc, h, rfl⟩ kk
theorem r_cS4l {idx : Nat} {y2 : MethodName} {v1 v2 v3 v4 : Value} {q : Int64} {S1 : xS} (hd : decode cc pc = .ok (.invokestatic idx, 3)) (hl : xSl y.cls idx y2 4) (hc : (st.map fun v => v.category).sum ≤ 8) (h : call y2 [v1, v2, v3, v4] S (some (.long q)) S1) (kk : xR call ex X y cc ret (pc + 3) ls (.long q :: st) S1 Q) : xR call ex X y cc ret pc ls (v4 :: v3 :: v2 :: v1 :: st) S Q := r_step ⟨_, _, hd, rfl, rfl, rfl, Or.inl ⟨y2, 4, [v1, v2, v3, v4], st, (some (.long q)), hl, rfl, rfl, hc, h, rfl⟩⟩ kk
theorem r_cI4 {idx a : Nat} {y2 : MethodName} {v1 v2 v3 v4 : Value} {S1 : xS} (hd : decode cc pc = .ok (.invokespecial idx, 3)) (hl : xIl y.cls idx y2 4) (hc : (st.map fun v => v.category).sum ≤ 8) (h : call y2 (.ref a :: [v1, v2, v3, v4]) S none S1) (kk : xR call ex X y cc ret (pc + 3) ls st S1 Q) : xR call ex X y cc ret pc ls (v4 :: v3 :: v2 :: v1 :: .ref a :: st) S Q := r_step ⟨_, _, hd, rfl, rfl, rfl, Or.inl ⟨y2, 4, [v1, v2, v3, v4], a, st, hl, rfl, rfl, hc, h, rfl⟩⟩ kk
theorem r_cV5i {idx ci N a : Nat} {y2 : MethodName} {v1 v2 v3 v4 v5 : Value} {q : Int32} {S1 : xS} (hd : decode cc pc = .ok (.invokevirtual idx, 3)) (hl : xVl y.cls idx y2 5 ci) (hs : S.1[a]? = some (.inl ci, N)) (hc : (st.map fun v => v.category).sum ≤ 8) (h : call y2 (.ref a :: [v1, v2, v3, v4, v5]) S (some (.int q)) S1) (kk : xR call ex X y cc ret (pc + 3) ls (.int q :: st) S1 Q) : xR call ex X y cc ret pc ls (v5 :: v4 :: v3 :: v2 :: v1 :: .ref a :: st) S Q := r_step ⟨_, _, hd, rfl, rfl, rfl, y2, 5, ci, [v1, v2, v3, v4, v5], a, N, st, (some (.int q)), hl, hs, rfl, rfl, hc, h, rfl⟩ kk
theorem r_cS5i {idx : Nat} {y2 : MethodName} {v1 v2 v3 v4 v5 : Value} {q : Int32} {S1 : xS} (hd : decode cc pc = .ok (.invokestatic idx, 3)) (hl : xSl y.cls idx y2 5) (hc : (st.map fun v => v.category).sum ≤ 8) (h : call y2 [v1, v2, v3, v4, v5] S (some (.int q)) S1) (kk : xR call ex X y cc ret (pc + 3) ls (.int q :: st) S1 Q) : xR call ex X y cc ret pc ls (v5 :: v4 :: v3 :: v2 :: v1 :: st) S Q := r_step ⟨_, _, hd, rfl, rfl, rfl, Or.inl ⟨y2, 5, [v1, v2, v3, v4, v5], st, (some (.int q)), hl, rfl, rfl, hc, h, rfl⟩⟩ kk
theorem r_cV5v {idx ci N a : Nat} {y2 : MethodName} {v1 v2 v3 v4 v5 : Value}  {S1 : xS} (hd : decode cc pc = .ok (.invokevirtual idx, 3)) (hl : xVl y.cls idx y2 5 ci) (hs : S.1[a]? = some (.inl ci, N)) (hc : (st.map fun v => v.category).sum ≤ 8) (h : call y2 (.ref a :: [v1, v2, v3, v4, v5]) S none S1) (kk : xR call ex X y cc ret (pc + 3) ls st S1 Q) : xR call ex X y cc ret pc ls (v5 :: v4 :: v3 :: v2 :: v1 :: .ref a :: st) S Q := r_step ⟨_, _, hd, rfl, rfl, rfl, y2, 5, ci, [v1, v2, v3, v4, v5], a, N, st, none, hl, hs, rfl, rfl, hc, h, rfl⟩ kk
theorem r_cS5v {idx : Nat} {y2 : MethodName} {v1 v2 v3 v4 v5 : Value}  {S1 : xS} (hd : decode cc pc = .ok (.invokestatic idx, 3)) (hl : xSl y.cls idx y2 5) (hc : (st.map fun v => v.category).sum ≤ 8) (h : call y2 [v1, v2, v3, v4, v5] S none S1) (kk : xR call ex X y cc ret (pc + 3) ls st S1 Q) : xR call ex X y cc ret pc ls (v5 :: v4 :: v3 :: v2 :: v1 :: st) S Q := r_step ⟨_, _, hd, rfl, rfl, rfl, Or.inl ⟨y2, 5, [v1, v2, v3, v4, v5], st, none, hl, rfl, rfl, hc, h, rfl⟩⟩ kk
theorem r_cV5l {idx ci N a : Nat} {y2 : MethodName} {v1 v2 v3 v4 v5 : Value} {q : Int64} {S1 : xS} (hd : decode cc pc = .ok (.invokevirtual idx, 3)) (hl : xVl y.cls idx y2 5 ci) (hs : S.1[a]? = some (.inl ci, N)) (hc : (st.map fun v => v.category).sum ≤ 8) (h : call y2 (.ref a :: [v1, v2, v3, v4, v5]) S (some (.long q)) S1) (kk : xR call ex X y cc ret (pc + 3) ls (.long q :: st) S1 Q) : xR call ex X y cc ret pc ls (v5 :: v4 :: v3 :: v2 :: v1 :: .ref a :: st) S Q := r_step ⟨_, _, hd, rfl, rfl, rfl, y2, 5, ci, [v1, v2, v3, v4, v5], a, N, st, (some (.long q)), hl, hs, rfl, rfl, hc, h, rfl⟩ kk
theorem r_cS5l {idx : Nat} {y2 : MethodName} {v1 v2 v3 v4 v5 : Value} {q : Int64} {S1 : xS} (hd : decode cc pc = .ok (.invokestatic idx, 3)) (hl : xSl y.cls idx y2 5) (hc : (st.map fun v => v.category).sum ≤ 8) (h : call y2 [v1, v2, v3, v4, v5] S (some (.long q)) S1) (kk : xR call ex X y cc ret (pc + 3) ls (.long q :: st) S1 Q) : xR call ex X y cc ret pc ls (v5 :: v4 :: v3 :: v2 :: v1 :: st) S Q := r_step ⟨_, _, hd, rfl, rfl, rfl, Or.inl ⟨y2, 5, [v1, v2, v3, v4, v5], st, (some (.long q)), hl, rfl, rfl, hc, h, rfl⟩⟩ kk
theorem r_cI5 {idx a : Nat} {y2 : MethodName} {v1 v2 v3 v4 v5 : Value} {S1 : xS} (hd : decode cc pc = .ok (.invokespecial idx, 3)) (hl : xIl y.cls idx y2 5) (hc : (st.map fun v => v.category).sum ≤ 8) (h : call y2 (.ref a :: [v1, v2, v3, v4, v5]) S none S1) (kk : xR call ex X y cc ret (pc + 3) ls st S1 Q) : xR call ex X y cc ret pc ls (v5 :: v4 :: v3 :: v2 :: v1 :: .ref a :: st) S Q := r_step ⟨_, _, hd, rfl, rfl, rfl, Or.inl ⟨y2, 5, [v1, v2, v3, v4, v5], a, st, hl, rfl, rfl, hc, h, rfl⟩⟩ kk
theorem r_cV6i {idx ci N a : Nat} {y2 : MethodName} {v1 v2 v3 v4 v5 v6 : Value} {q : Int32} {S1 : xS} (hd : decode cc pc = .ok (.invokevirtual idx, 3)) (hl : xVl y.cls idx y2 6 ci) (hs : S.1[a]? = some (.inl ci, N)) (hc : (st.map fun v => v.category).sum ≤ 8) (h : call y2 (.ref a :: [v1, v2, v3, v4, v5, v6]) S (some (.int q)) S1) (kk : xR call ex X y cc ret (pc + 3) ls (.int q :: st) S1 Q) : xR call ex X y cc ret pc ls (v6 :: v5 :: v4 :: v3 :: v2 :: v1 :: .ref a :: st) S Q := r_step ⟨_, _, hd, rfl, rfl, rfl, y2, 6, ci, [v1, v2, v3, v4, v5, v6], a, N, st, (some (.int q)), hl, hs, rfl, rfl, hc, h, rfl⟩ kk
theorem r_cS6i {idx : Nat} {y2 : MethodName} {v1 v2 v3 v4 v5 v6 : Value} {q : Int32} {S1 : xS} (hd : decode cc pc = .ok (.invokestatic idx, 3)) (hl : xSl y.cls idx y2 6) (hc : (st.map fun v => v.category).sum ≤ 8) (h : call y2 [v1, v2, v3, v4, v5, v6] S (some (.int q)) S1) (kk : xR call ex X y cc ret (pc + 3) ls (.int q :: st) S1 Q) : xR call ex X y cc ret pc ls (v6 :: v5 :: v4 :: v3 :: v2 :: v1 :: st) S Q := r_step ⟨_, _, hd, rfl, rfl, rfl, Or.inl ⟨y2, 6, [v1, v2, v3, v4, v5, v6], st, (some (.int q)), hl, rfl, rfl, hc, h, rfl⟩⟩ kk
theorem r_cV6v {idx ci N a : Nat} {y2 : MethodName} {v1 v2 v3 v4 v5 v6 : Value}  {S1 : xS} (hd : decode cc pc = .ok (.invokevirtual idx, 3)) (hl : xVl y.cls idx y2 6 ci) (hs : S.1[a]? = some (.inl ci, N)) (hc : (st.map fun v => v.category).sum ≤ 8) (h : call y2 (.ref a :: [v1, v2, v3, v4, v5, v6]) S none S1) (kk : xR call ex X y cc ret (pc + 3) ls st S1 Q) : xR call ex X y cc ret pc ls (v6 :: v5 :: v4 :: v3 :: v2 :: v1 :: .ref a :: st) S Q := r_step ⟨_, _, hd, rfl, rfl, rfl, y2, 6, ci, [v1, v2, v3, v4, v5, v6], a, N, st, none, hl, hs, rfl, rfl, hc, h, rfl⟩ kk
theorem r_cS6v {idx : Nat} {y2 : MethodName} {v1 v2 v3 v4 v5 v6 : Value}  {S1 : xS} (hd : decode cc pc = .ok (.invokestatic idx, 3)) (hl : xSl y.cls idx y2 6) (hc : (st.map fun v => v.category).sum ≤ 8) (h : call y2 [v1, v2, v3, v4, v5, v6] S none S1) (kk : xR call ex X y cc ret (pc + 3) ls st S1 Q) : xR call ex X y cc ret pc ls (v6 :: v5 :: v4 :: v3 :: v2 :: v1 :: st) S Q := r_step ⟨_, _, hd, rfl, rfl, rfl, Or.inl ⟨y2, 6, [v1, v2, v3, v4, v5, v6], st, none, hl, rfl, rfl, hc, h, rfl⟩⟩ kk
theorem r_cV6l {idx ci N a : Nat} {y2 : MethodName} {v1 v2 v3 v4 v5 v6 : Value} {q : Int64} {S1 : xS} (hd : decode cc pc = .ok (.invokevirtual idx, 3)) (hl : xVl y.cls idx y2 6 ci) (hs : S.1[a]? = some (.inl ci, N)) (hc : (st.map fun v => v.category).sum ≤ 8) (h : call y2 (.ref a :: [v1, v2, v3, v4, v5, v6]) S (some (.long q)) S1) (kk : xR call ex X y cc ret (pc + 3) ls (.long q :: st) S1 Q) : xR call ex X y cc ret pc ls (v6 :: v5 :: v4 :: v3 :: v2 :: v1 :: .ref a :: st) S Q := r_step ⟨_, _, hd, rfl, rfl, rfl, y2, 6, ci, [v1, v2, v3, v4, v5, v6], a, N, st, (some (.long q)), hl, hs, rfl, rfl, hc, h, rfl⟩ kk
theorem r_cS6l {idx : Nat} {y2 : MethodName} {v1 v2 v3 v4 v5 v6 : Value} {q : Int64} {S1 : xS} (hd : decode cc pc = .ok (.invokestatic idx, 3)) (hl : xSl y.cls idx y2 6) (hc : (st.map fun v => v.category).sum ≤ 8) (h : call y2 [v1, v2, v3, v4, v5, v6] S (some (.long q)) S1) (kk : xR call ex X y cc ret (pc + 3) ls (.long q :: st) S1 Q) : xR call ex X y cc ret pc ls (v6 :: v5 :: v4 :: v3 :: v2 :: v1 :: st) S Q := r_step ⟨_, _, hd, rfl, rfl, rfl, Or.inl ⟨y2, 6, [v1, v2, v3, v4, v5, v6], st, (some (.long q)), hl, rfl, rfl, hc, h, rfl⟩⟩ kk
theorem r_cI6 {idx a : Nat} {y2 : MethodName} {v1 v2 v3 v4 v5 v6 : Value} {S1 : xS} (hd : decode cc pc = .ok (.invokespecial idx, 3)) (hl : xIl y.cls idx y2 6) (hc : (st.map fun v => v.category).sum ≤ 8) (h : call y2 (.ref a :: [v1, v2, v3, v4, v5, v6]) S none S1) (kk : xR call ex X y cc ret (pc + 3) ls st S1 Q) : xR call ex X y cc ret pc ls (v6 :: v5 :: v4 :: v3 :: v2 :: v1 :: .ref a :: st) S Q := r_step ⟨_, _, hd, rfl, rfl, rfl, Or.inl ⟨y2, 6, [v1, v2, v3, v4, v5, v6], a, st, hl, rfl, rfl, hc, h, rfl⟩⟩ kk
theorem r_cV7i {idx ci N a : Nat} {y2 : MethodName} {v1 v2 v3 v4 v5 v6 v7 : Value} {q : Int32} {S1 : xS} (hd : decode cc pc = .ok (.invokevirtual idx, 3)) (hl : xVl y.cls idx y2 7 ci) (hs : S.1[a]? = some (.inl ci, N)) (hc : (st.map fun v => v.category).sum ≤ 8) (h : call y2 (.ref a :: [v1, v2, v3, v4, v5, v6, v7]) S (some (.int q)) S1) (kk : xR call ex X y cc ret (pc + 3) ls (.int q :: st) S1 Q) : xR call ex X y cc ret pc ls (v7 :: v6 :: v5 :: v4 :: v3 :: v2 :: v1 :: .ref a :: st) S Q := r_step ⟨_, _, hd, rfl, rfl, rfl, y2, 7, ci, [v1, v2, v3, v4, v5, v6, v7], a, N, st, (some (.int q)), hl, hs, rfl, rfl, hc, h, rfl⟩ kk
theorem r_cS7i {idx : Nat} {y2 : MethodName} {v1 v2 v3 v4 v5 v6 v7 : Value} {q : Int32} {S1 : xS} (hd : decode cc pc = .ok (.invokestatic idx, 3)) (hl : xSl y.cls idx y2 7) (hc : (st.map fun v => v.category).sum ≤ 8) (h : call y2 [v1, v2, v3, v4, v5, v6, v7] S (some (.int q)) S1) (kk : xR call ex X y cc ret (pc + 3) ls (.int q :: st) S1 Q) : xR call ex X y cc ret pc ls (v7 :: v6 :: v5 :: v4 :: v3 :: v2 :: v1 :: st) S Q := r_step ⟨_, _, hd, rfl, rfl, rfl, Or.inl ⟨y2, 7, [v1, v2, v3, v4, v5, v6, v7], st, (some (.int q)), hl, rfl, rfl, hc, h, rfl⟩⟩ kk
theorem r_cV7v {idx ci N a : Nat} {y2 : MethodName} {v1 v2 v3 v4 v5 v6 v7 : Value}  {S1 : xS} (hd : decode cc pc = .ok (.invokevirtual idx, 3)) (hl : xVl y.cls idx y2 7 ci) (hs : S.1[a]? = some (.inl ci, N)) (hc : (st.map fun v => v.category).sum ≤ 8) (h : call y2 (.ref a :: [v1, v2, v3, v4, v5, v6, v7]) S none S1) (kk : xR call ex X y cc ret (pc + 3) ls st S1 Q) : xR call ex X y cc ret pc ls (v7 :: v6 :: v5 :: v4 :: v3 :: v2 :: v1 :: .ref a :: st) S Q := r_step ⟨_, _, hd, rfl, rfl, rfl, y2, 7, ci, [v1, v2, v3, v4, v5, v6, v7], a, N, st, none, hl, hs, rfl, rfl, hc, h, rfl⟩ kk
theorem r_cS7v {idx : Nat} {y2 : MethodName} {v1 v2 v3 v4 v5 v6 v7 : Value}  {S1 : xS} (hd : decode cc pc = .ok (.invokestatic idx, 3)) (hl : xSl y.cls idx y2 7) (hc : (st.map fun v => v.category).sum ≤ 8) (h : call y2 [v1, v2, v3, v4, v5, v6, v7] S none S1) (kk : xR call ex X y cc ret (pc + 3) ls st S1 Q) : xR call ex X y cc ret pc ls (v7 :: v6 :: v5 :: v4 :: v3 :: v2 :: v1 :: st) S Q := r_step ⟨_, _, hd, rfl, rfl, rfl, Or.inl ⟨y2, 7, [v1, v2, v3, v4, v5, v6, v7], st, none, hl, rfl, rfl, hc, h, rfl⟩⟩ kk
theorem r_cV7l {idx ci N a : Nat} {y2 : MethodName} {v1 v2 v3 v4 v5 v6 v7 : Value} {q : Int64} {S1 : xS} (hd : decode cc pc = .ok (.invokevirtual idx, 3)) (hl : xVl y.cls idx y2 7 ci) (hs : S.1[a]? = some (.inl ci, N)) (hc : (st.map fun v => v.category).sum ≤ 8) (h : call y2 (.ref a :: [v1, v2, v3, v4, v5, v6, v7]) S (some (.long q)) S1) (kk : xR call ex X y cc ret (pc + 3) ls (.long q :: st) S1 Q) : xR call ex X y cc ret pc ls (v7 :: v6 :: v5 :: v4 :: v3 :: v2 :: v1 :: .ref a :: st) S Q := r_step ⟨_, _, hd, rfl, rfl, rfl, y2, 7, ci, [v1, v2, v3, v4, v5, v6, v7], a, N, st, (some (.long q)), hl, hs, rfl, rfl, hc, h, rfl⟩ kk
theorem r_cS7l {idx : Nat} {y2 : MethodName} {v1 v2 v3 v4 v5 v6 v7 : Value} {q : Int64} {S1 : xS} (hd : decode cc pc = .ok (.invokestatic idx, 3)) (hl : xSl y.cls idx y2 7) (hc : (st.map fun v => v.category).sum ≤ 8) (h : call y2 [v1, v2, v3, v4, v5, v6, v7] S (some (.long q)) S1) (kk : xR call ex X y cc ret (pc + 3) ls (.long q :: st) S1 Q) : xR call ex X y cc ret pc ls (v7 :: v6 :: v5 :: v4 :: v3 :: v2 :: v1 :: st) S Q := r_step ⟨_, _, hd, rfl, rfl, rfl, Or.inl ⟨y2, 7, [v1, v2, v3, v4, v5, v6, v7], st, (some (.long q)), hl, rfl, rfl, hc, h, rfl⟩⟩ kk
theorem r_cI7 {idx a : Nat} {y2 : MethodName} {v1 v2 v3 v4 v5 v6 v7 : Value} {S1 : xS} (hd : decode cc pc = .ok (.invokespecial idx, 3)) (hl : xIl y.cls idx y2 7) (hc : (st.map fun v => v.category).sum ≤ 8) (h : call y2 (.ref a :: [v1, v2, v3, v4, v5, v6, v7]) S none S1) (kk : xR call ex X y cc ret (pc + 3) ls st S1 Q) : xR call ex X y cc ret pc ls (v7 :: v6 :: v5 :: v4 :: v3 :: v2 :: v1 :: .ref a :: st) S Q := r_step ⟨_, _, hd, rfl, rfl, rfl, Or.inl ⟨y2, 7, [v1, v2, v3, v4, v5, v6, v7], a, st, hl, rfl, rfl, hc, h, rfl⟩⟩ kk
theorem r_iretq {x : Int32} {ty : FieldType} (hd : decode cc pc = .ok (.ireturn, 1)) (hr : ret = some ty) (hn : narrow ty (.int x) = .int x) (h : Q (some (.int x)) S) : xR call ex X y cc ret pc ls [.int x] S Q := ⟨0, _, _, ⟨⟨_, _, hd, rfl, x, ty, rfl, hr, hn, rfl⟩, rfl⟩, h⟩
theorem r_lretq {x : Int64} (hd : decode cc pc = .ok (.lreturn, 1)) (hr : ret = some .long) (h : Q (some (.long x)) S) : xR call ex X y cc ret pc ls [.long x] S Q := ⟨0, _, _, ⟨⟨_, _, hd, rfl, x, rfl, hr, rfl⟩, rfl⟩, h⟩
theorem r_vretq (hd : decode cc pc = .ok (.return_, 1)) (hr : ret = none) (h : Q none S) : xR call ex X y cc ret pc ls [] S Q := ⟨0, _, _, ⟨⟨_, _, hd, rfl, rfl, hr, rfl⟩, rfl⟩, h⟩
theorem r_iret {x : Int32} {ty : FieldType} {r : Option Value} {S' : xS} (hd : decode cc pc = .ok (.ireturn, 1)) (hr : ret = some ty) (hn : narrow ty (.int x) = .int x) (h1 : r = some (.int x)) (h2 : S' = S) : xR call ex X y cc ret pc ls [.int x] S (xEq r S') := r_iretq hd hr hn ⟨h1.symm, h2.symm⟩
theorem r_lret {x : Int64} {r : Option Value} {S' : xS} (hd : decode cc pc = .ok (.lreturn, 1)) (hr : ret = some .long) (h1 : r = some (.long x)) (h2 : S' = S) : xR call ex X y cc ret pc ls [.long x] S (xEq r S') := r_lretq hd hr ⟨h1.symm, h2.symm⟩
theorem r_vret {r : Option Value} {S' : xS} (hd : decode cc pc = .ok (.return_, 1)) (hr : ret = none) (h1 : r = none) (h2 : S' = S) : xR call ex X y cc ret pc ls [] S (xEq r S') := r_vretq hd hr ⟨h1.symm, h2.symm⟩
end RL
theorem r_for (P : Nat → Prop) (n : Nat) (h : ∀ i, i < n → P (i + 1) → P i) (hn : P n) : ∀ i, i ≤ n → P i := by
  intro i hi
  obtain ⟨k, hk⟩ : ∃ k, n = i + k := ⟨n - i, by omega⟩
  subst hk
  induction k generalizing i with
  | zero => exact hn
  | succ k ih => exact h i (by omega) (ih (i + 1) (fun j hj => h j (by omega)) (by rw [show i + 1 + k = i + (k + 1) by omega]; exact hn) (by omega))
theorem cqX10_init : xCo yX10_init cX10_init 2 none := ⟨coX10_init, by decide +kernel, by decide⟩
theorem cqX7_init : xCo yX7_init cX7_init 2 none := ⟨coX7_init, by decide +kernel, by decide⟩
theorem cqX6_init : xCo yX6_init cX6_init 1 none := ⟨coX6_init, by decide +kernel, by decide⟩
theorem cqX2_init : xCo yX2_init cX2_init 1 none := ⟨coX2_init, by decide +kernel, by decide⟩
theorem cqX6_clear : xCo yX6_clear cX6_clear 1 none := ⟨coX6_clear, by decide +kernel, by decide⟩
theorem cqX2_clear : xCo yX2_clear cX2_clear 2 none := ⟨coX2_clear, by decide +kernel, by decide⟩
theorem cqX0_init : xCo yX0_init cX0_init 2 none := ⟨coX0_init, by decide +kernel, by decide⟩
theorem cqX0_clear : xCo yX0_clear cX0_clear 3 none := ⟨coX0_clear, by decide +kernel, by decide⟩
theorem cqX8_init : xCo yX8_init cX8_init 2 none := ⟨coX8_init, by decide +kernel, by decide⟩
theorem cqX1_init : xCo yX1_init cX1_init 2 none := ⟨coX1_init, by decide +kernel, by decide⟩
theorem cqX5_init : xCo yX5_init cX5_init 1 none := ⟨coX5_init, by decide +kernel, by decide⟩
theorem cqX9_init : xCo yX9_init cX9_init 1 none := ⟨coX9_init, by decide +kernel, by decide⟩
theorem cqX3_init : xCo yX3_init cX3_init 1 none := ⟨coX3_init, by decide +kernel, by decide⟩
theorem cqX4_init : xCo yX4_init cX4_init 1 none := ⟨coX4_init, by decide +kernel, by decide⟩
theorem cqX10_feed : xCo yX10_feed cX10_feed 6 (some .int) := ⟨coX10_feed, by decide +kernel, by decide⟩
theorem cqX10_putNumber : xCo yX10_putNumber cX10_putNumber 3 none := ⟨coX10_putNumber, by decide +kernel, by decide⟩
theorem cqX10_text : xCo yX10_text cX10_text 4 (some .int) := ⟨coX10_text, by decide +kernel, by decide⟩
theorem cqX7_begin : xCo yX7_begin cX7_begin 2 none := ⟨coX7_begin, by decide +kernel, by decide⟩
theorem cqX8_begin : xCo yX8_begin cX8_begin 2 none := ⟨coX8_begin, by decide +kernel, by decide⟩
theorem cqX8_advance : xCo yX8_advance cX8_advance 1 none := ⟨coX8_advance, by decide +kernel, by decide⟩
theorem cqX8_isLetter : xCo yX8_isLetter cX8_isLetter 1 (some .boolean) := ⟨coX8_isLetter, by decide +kernel, by decide⟩
theorem cqX8_readWord : xCo yX8_readWord cX8_readWord 2 none := ⟨coX8_readWord, by decide +kernel, by decide⟩
theorem cqX8_wordKind : xCo yX8_wordKind cX8_wordKind 7 (some .int) := ⟨coX8_wordKind, by decide +kernel, by decide⟩
theorem cqJ0_length_8abf5 : xCo yJ0_length_8abf5 cJ0_length_8abf5 1 (some .int) := ⟨coJ0_length_8abf5, by decide +kernel, by decide⟩
theorem cqJ0_coder_7d493 : xCo yJ0_coder_7d493 cJ0_coder_7d493 1 (some .byte) := ⟨coJ0_coder_7d493, by decide +kernel, by decide⟩
theorem cqJ0_charAt_5068e : xCo yJ0_charAt_5068e cJ0_charAt_5068e 2 (some .char) := ⟨coJ0_charAt_5068e, by decide +kernel, by decide⟩
theorem cqJ0_isLatin1_aae02 : xCo yJ0_isLatin1_aae02 cJ0_isLatin1_aae02 1 (some .boolean) := ⟨coJ0_isLatin1_aae02, by decide +kernel, by decide⟩
theorem cqJ1_charAt_3b067 : xCo yJ1_charAt_3b067 cJ1_charAt_3b067 2 (some .char) := ⟨coJ1_charAt_3b067, by decide +kernel, by decide⟩
theorem cqJ0_checkIndex_df160 : xCo yJ0_checkIndex_df160 cJ0_checkIndex_df160 2 none := ⟨coJ0_checkIndex_df160, by decide +kernel, by decide⟩
theorem cqJ3_checkIndex_8e157 : xCo yJ3_checkIndex_8e157 cJ3_checkIndex_8e157 3 (some .int) := ⟨coJ3_checkIndex_8e157, by decide +kernel, by decide⟩
theorem cqJ2_charAt_3b067 : xCo yJ2_charAt_3b067 cJ2_charAt_3b067 2 (some .char) := ⟨coJ2_charAt_3b067, by decide +kernel, by decide⟩
theorem cqJ2_checkIndex_2214a : xCo yJ2_checkIndex_2214a cJ2_checkIndex_2214a 2 none := ⟨coJ2_checkIndex_2214a, by decide +kernel, by decide⟩
theorem cqJ2_length_9d52b : xCo yJ2_length_9d52b cJ2_length_9d52b 1 (some .int) := ⟨coJ2_length_9d52b, by decide +kernel, by decide⟩
theorem cqJ2_getChar_3b067 : xCo yJ2_getChar_3b067 cJ2_getChar_3b067 2 (some .char) := ⟨coJ2_getChar_3b067, by decide +kernel, by decide⟩
theorem cqX8_isDigit : xCo yX8_isDigit cX8_isDigit 1 (some .boolean) := ⟨coX8_isDigit, by decide +kernel, by decide⟩
theorem cqX8_readNumber : xCo yX8_readNumber cX8_readNumber 1 none := ⟨coX8_readNumber, by decide +kernel, by decide⟩
theorem cqX8_readSign : xCo yX8_readSign cX8_readSign 3 none := ⟨coX8_readSign, by decide +kernel, by decide⟩
theorem cqX8_doubleKind : xCo yX8_doubleKind cX8_doubleKind 2 (some .int) := ⟨coX8_doubleKind, by decide +kernel, by decide⟩
theorem cqX8_singleKind : xCo yX8_singleKind cX8_singleKind 1 (some .int) := ⟨coX8_singleKind, by decide +kernel, by decide⟩
theorem cqX7_hasMore : xCo yX7_hasMore cX7_hasMore 1 (some .boolean) := ⟨coX7_hasMore, by decide +kernel, by decide⟩
theorem cqX7_tellLine : xCo yX7_tellLine cX7_tellLine 2 (some .boolean) := ⟨coX7_tellLine, by decide +kernel, by decide⟩
theorem cqX7_personLine : xCo yX7_personLine cX7_personLine 4 (some .boolean) := ⟨coX7_personLine, by decide +kernel, by decide⟩
theorem cqX7_open : xCo yX7_open cX7_open 3 (some .boolean) := ⟨coX7_open, by decide +kernel, by decide⟩
theorem cqX7_fail : xCo yX7_fail cX7_fail 2 (some .boolean) := ⟨coX7_fail, by decide +kernel, by decide⟩
theorem cqX6_personNamed : xCo yX6_personNamed cX6_personNamed 3 (some .int) := ⟨coX6_personNamed, by decide +kernel, by decide⟩
theorem cqX7_number : xCo yX7_number cX7_number 3 (some .boolean) := ⟨coX7_number, by decide +kernel, by decide⟩
theorem cqX6_addPerson : xCo yX6_addPerson cX6_addPerson 4 none := ⟨coX6_addPerson, by decide +kernel, by decide⟩
theorem cqX7_debtLine : xCo yX7_debtLine cX7_debtLine 5 (some .boolean) := ⟨coX7_debtLine, by decide +kernel, by decide⟩
theorem cqX7_toldPerson : xCo yX7_toldPerson cX7_toldPerson 1 (some .boolean) := ⟨coX7_toldPerson, by decide +kernel, by decide⟩
theorem cqX0_addStrand : xCo yX0_addStrand cX0_addStrand 6 none := ⟨coX0_addStrand, by decide +kernel, by decide⟩
theorem cqX7_twistLine : xCo yX7_twistLine cX7_twistLine 2 (some .boolean) := ⟨coX7_twistLine, by decide +kernel, by decide⟩
theorem cqX7_freeStrand : xCo yX7_freeStrand cX7_freeStrand 2 (some .boolean) := ⟨coX7_freeStrand, by decide +kernel, by decide⟩
theorem cqX0_isStrand : xCo yX0_isStrand cX0_isStrand 2 (some .boolean) := ⟨coX0_isStrand, by decide +kernel, by decide⟩
theorem cqX0_twine : xCo yX0_twine cX0_twine 3 none := ⟨coX0_twine, by decide +kernel, by decide⟩
theorem cqX7_crossLine : xCo yX7_crossLine cX7_crossLine 3 (some .boolean) := ⟨coX7_crossLine, by decide +kernel, by decide⟩
theorem cqX6_addCrossing : xCo yX6_addCrossing cX6_addCrossing 4 none := ⟨coX6_addCrossing, by decide +kernel, by decide⟩
theorem cqX7_plankLine : xCo yX7_plankLine cX7_plankLine 1 (some .boolean) := ⟨coX7_plankLine, by decide +kernel, by decide⟩
theorem cqX7_seedLine : xCo yX7_seedLine cX7_seedLine 1 (some .boolean) := ⟨coX7_seedLine, by decide +kernel, by decide⟩
theorem cqX7_lawLine : xCo yX7_lawLine cX7_lawLine 3 (some .boolean) := ⟨coX7_lawLine, by decide +kernel, by decide⟩
theorem cqX1_readInto : xCo yX1_readInto cX1_readInto 6 (some .int) := ⟨coX1_readInto, by decide +kernel, by decide⟩
theorem cqX1_atEnd : xCo yX1_atEnd cX1_atEnd 1 (some .boolean) := ⟨coX1_atEnd, by decide +kernel, by decide⟩
theorem cqX1_part : xCo yX1_part cX1_part 3 (some .int) := ⟨coX1_part, by decide +kernel, by decide⟩
theorem cqX1_openBracket : xCo yX1_openBracket cX1_openBracket 1 (some .int) := ⟨coX1_openBracket, by decide +kernel, by decide⟩
theorem cqX1_pushWaiting : xCo yX1_pushWaiting cX1_pushWaiting 2 none := ⟨coX1_pushWaiting, by decide +kernel, by decide⟩
theorem cqX1_knotWaits : xCo yX1_knotWaits cX1_knotWaits 1 (some .int) := ⟨coX1_knotWaits, by decide +kernel, by decide⟩
theorem cqX2_put : xCo yX2_put cX2_put 2 none := ⟨coX2_put, by decide +kernel, by decide⟩
theorem cqX1_behindPart : xCo yX1_behindPart cX1_behindPart 2 (some .int) := ⟨coX1_behindPart, by decide +kernel, by decide⟩
theorem cqX1_settle : xCo yX1_settle cX1_settle 3 none := ⟨coX1_settle, by decide +kernel, by decide⟩
theorem cqX1_lastRank : xCo yX1_lastRank cX1_lastRank 1 (some .int) := ⟨coX1_lastRank, by decide +kernel, by decide⟩
theorem cqX1_rankOf : xCo yX1_rankOf cX1_rankOf 1 (some .int) := ⟨coX1_rankOf, by decide +kernel, by decide⟩
theorem cqX7_skip : xCo yX7_skip cX7_skip 2 (some .boolean) := ⟨coX7_skip, by decide +kernel, by decide⟩
theorem cqX10_takeTold : xCo yX10_takeTold cX10_takeTold 2 none := ⟨coX10_takeTold, by decide +kernel, by decide⟩
theorem cqX0_become : xCo yX0_become cX0_become 2 none := ⟨coX0_become, by decide +kernel, by decide⟩
theorem cqX10_forgetActs : xCo yX10_forgetActs cX10_forgetActs 1 none := ⟨coX10_forgetActs, by decide +kernel, by decide⟩
theorem cqX5_clear : xCo yX5_clear cX5_clear 1 none := ⟨coX5_clear, by decide +kernel, by decide⟩
theorem cqX10_fault : xCo yX10_fault cX10_fault 2 (some .int) := ⟨coX10_fault, by decide +kernel, by decide⟩
theorem cqX10_named : xCo yX10_named cX10_named 2 (some .int) := ⟨coX10_named, by decide +kernel, by decide⟩
theorem cqX10_strand : xCo yX10_strand cX10_strand 3 (some .int) := ⟨coX10_strand, by decide +kernel, by decide⟩
theorem cqX0_twoOf : xCo yX0_twoOf cX0_twoOf 2 (some .int) := ⟨coX0_twoOf, by decide +kernel, by decide⟩
theorem cqX0_isThere : xCo yX0_isThere cX0_isThere 2 (some .boolean) := ⟨coX0_isThere, by decide +kernel, by decide⟩
theorem cqX0_alone : xCo yX0_alone cX0_alone 3 (some .int) := ⟨coX0_alone, by decide +kernel, by decide⟩
theorem cqX0_measure : xCo yX0_measure cX0_measure 3 none := ⟨coX0_measure, by decide +kernel, by decide⟩
theorem cqX0_setNames : xCo yX0_setNames cX0_setNames 8 none := ⟨coX0_setNames, by decide +kernel, by decide⟩
theorem cqX2_work : xCo yX2_work cX2_work 8 (some .long) := ⟨coX2_work, by decide +kernel, by decide⟩
theorem cqX2_plainValue : xCo yX2_plainValue cX2_plainValue 3 (some .long) := ⟨coX2_plainValue, by decide +kernel, by decide⟩
theorem cqX2_joined : xCo yX2_joined cX2_joined 7 (some .long) := ⟨coX2_joined, by decide +kernel, by decide⟩
theorem cqX0_within : xCo yX0_within cX0_within 4 (some .int) := ⟨coX0_within, by decide +kernel, by decide⟩
theorem cqX10_crossing : xCo yX10_crossing cX10_crossing 3 (some .int) := ⟨coX10_crossing, by decide +kernel, by decide⟩
theorem cqX10_law : xCo yX10_law cX10_law 3 (some .long) := ⟨coX10_law, by decide +kernel, by decide⟩
theorem cqX10_bears : xCo yX10_bears cX10_bears 1 (some .int) := ⟨coX10_bears, by decide +kernel, by decide⟩
theorem cqX0_bridgeBears : xCo yX0_bridgeBears cX0_bridgeBears 5 (some .int) := ⟨coX0_bridgeBears, by decide +kernel, by decide⟩
theorem cqX10_sag : xCo yX10_sag cX10_sag 2 (some .int) := ⟨coX10_sag, by decide +kernel, by decide⟩
theorem cqX10_sagOf : xCo yX10_sagOf cX10_sagOf 2 (some .int) := ⟨coX10_sagOf, by decide +kernel, by decide⟩
theorem cqX10_tie : xCo yX10_tie cX10_tie 5 (some .int) := ⟨coX10_tie, by decide +kernel, by decide⟩
theorem cqX10_isPerson : xCo yX10_isPerson cX10_isPerson 2 (some .boolean) := ⟨coX10_isPerson, by decide +kernel, by decide⟩
theorem cqX10_saveAct : xCo yX10_saveAct cX10_saveAct 1 none := ⟨coX10_saveAct, by decide +kernel, by decide⟩
theorem cqX10_forgive : xCo yX10_forgive cX10_forgive 2 (some .boolean) := ⟨coX10_forgive, by decide +kernel, by decide⟩
theorem cqX10_pay : xCo yX10_pay cX10_pay 2 (some .boolean) := ⟨coX10_pay, by decide +kernel, by decide⟩
theorem cqX0_canPay : xCo yX0_canPay cX0_canPay 2 (some .boolean) := ⟨coX0_canPay, by decide +kernel, by decide⟩
theorem cqX0_payOut : xCo yX0_payOut cX0_payOut 2 none := ⟨coX0_payOut, by decide +kernel, by decide⟩
theorem cqX10_twist : xCo yX10_twist cX10_twist 4 (some .boolean) := ⟨coX10_twist, by decide +kernel, by decide⟩
theorem cqX0_untwine : xCo yX0_untwine cX0_untwine 3 none := ⟨coX0_untwine, by decide +kernel, by decide⟩
theorem cqX10_cross : xCo yX10_cross cX10_cross 3 (some .int) := ⟨coX10_cross, by decide +kernel, by decide⟩
theorem cqX10_years : xCo yX10_years cX10_years 3 (some .int) := ⟨coX10_years, by decide +kernel, by decide⟩
theorem cqX0_goYear : xCo yX0_goYear cX0_goYear 3 (some .int) := ⟨coX0_goYear, by decide +kernel, by decide⟩
theorem cqX0_letCross : xCo yX0_letCross cX0_letCross 4 (some .int) := ⟨coX0_letCross, by decide +kernel, by decide⟩
theorem cqX0_frayAll : xCo yX0_frayAll cX0_frayAll 2 none := ⟨coX0_frayAll, by decide +kernel, by decide⟩
theorem cqX0_fray : xCo yX0_fray cX0_fray 3 none := ⟨coX0_fray, by decide +kernel, by decide⟩
theorem cqX0_growAll : xCo yX0_growAll cX0_growAll 2 none := ⟨coX0_growAll, by decide +kernel, by decide⟩
theorem cqX0_payAll : xCo yX0_payAll cX0_payAll 2 none := ⟨coX0_payAll, by decide +kernel, by decide⟩
theorem cqX10_order : xCo yX10_order cX10_order 4 (some .int) := ⟨coX10_order, by decide +kernel, by decide⟩
theorem cqX0_thereBits : xCo yX0_thereBits cX0_thereBits 3 (some .int) := ⟨coX0_thereBits, by decide +kernel, by decide⟩
theorem cqJ6_bitCount_0f7a4 : xCo yJ6_bitCount_0f7a4 cJ6_bitCount_0f7a4 1 (some .int) := ⟨coJ6_bitCount_0f7a4, by decide +kernel, by decide⟩
theorem cqX4_search : xCo yX4_search cX4_search 5 (some .boolean) := ⟨coX4_search, by decide +kernel, by decide⟩
theorem cqX4_endBears : xCo yX4_endBears cX4_endBears 4 (some .boolean) := ⟨coX4_endBears, by decide +kernel, by decide⟩
theorem cqX0_takeBack : xCo yX0_takeBack cX0_takeBack 2 none := ⟨coX0_takeBack, by decide +kernel, by decide⟩
theorem cqX4_payRest : xCo yX4_payRest cX4_payRest 7 (some .boolean) := ⟨coX4_payRest, by decide +kernel, by decide⟩
theorem cqX4_isDead : xCo yX4_isDead cX4_isDead 3 (some .boolean) := ⟨coX4_isDead, by decide +kernel, by decide⟩
theorem cqX4_markDead : xCo yX4_markDead cX4_markDead 3 none := ⟨coX4_markDead, by decide +kernel, by decide⟩
theorem cqX10_drop : xCo yX10_drop cX10_drop 2 (some .int) := ⟨coX10_drop, by decide +kernel, by decide⟩
theorem cqX9_weigh : xCo yX9_weigh cX9_weigh 3 none := ⟨coX9_weigh, by decide +kernel, by decide⟩
theorem cqX9_without : xCo yX9_without cX9_without 7 (some .int) := ⟨coX9_without, by decide +kernel, by decide⟩
theorem cqX9_stays : xCo yX9_stays cX9_stays 3 (some .boolean) := ⟨coX9_stays, by decide +kernel, by decide⟩
theorem cqX10_fewestCuts : xCo yX10_fewestCuts cX10_fewestCuts 7 (some .int) := ⟨coX10_fewestCuts, by decide +kernel, by decide⟩
theorem cqX10_loan : xCo yX10_loan cX10_loan 4 (some .int) := ⟨coX10_loan, by decide +kernel, by decide⟩
theorem cqX0_loanBears : xCo yX0_loanBears cX0_loanBears 2 (some .int) := ⟨coX0_loanBears, by decide +kernel, by decide⟩
theorem cqX10_strike : xCo yX10_strike cX10_strike 3 (some .int) := ⟨coX10_strike, by decide +kernel, by decide⟩
theorem cqX0_owedBetween : xCo yX0_owedBetween cX0_owedBetween 6 (some .int) := ⟨coX0_owedBetween, by decide +kernel, by decide⟩
theorem cqX10_twists : xCo yX10_twists cX10_twists 2 (some .int) := ⟨coX10_twists, by decide +kernel, by decide⟩
theorem cqX9_untwisted : xCo yX9_untwisted cX9_untwisted 4 (some .int) := ⟨coX9_untwisted, by decide +kernel, by decide⟩
theorem cqX3_gain : xCo yX3_gain cX3_gain 9 (some .int) := ⟨coX3_gain, by decide +kernel, by decide⟩
theorem cqX3_heaviestOf : xCo yX3_heaviestOf cX3_heaviestOf 4 (some .int) := ⟨coX3_heaviestOf, by decide +kernel, by decide⟩
theorem cqX10_partner : xCo yX10_partner cX10_partner 3 (some .int) := ⟨coX10_partner, by decide +kernel, by decide⟩
theorem cqX3_choose : xCo yX3_choose cX3_choose 9 none := ⟨coX3_choose, by decide +kernel, by decide⟩
theorem cqX3_firstPartner : xCo yX3_firstPartner cX3_firstPartner 9 (some .int) := ⟨coX3_firstPartner, by decide +kernel, by decide⟩
theorem cqX10_life : xCo yX10_life cX10_life 4 (some .int) := ⟨coX10_life, by decide +kernel, by decide⟩
theorem cqX10_ahead : xCo yX10_ahead cX10_ahead 4 (some .int) := ⟨coX10_ahead, by decide +kernel, by decide⟩
theorem cqX10_see : xCo yX10_see cX10_see 6 (some .int) := ⟨coX10_see, by decide +kernel, by decide⟩
theorem cqX5_put : xCo yX5_put cX5_put 5 (some .int) := ⟨coX5_put, by decide +kernel, by decide⟩
theorem cqX10_strikes : xCo yX10_strikes cX10_strikes 2 (some .int) := ⟨coX10_strikes, by decide +kernel, by decide⟩
theorem cqX10_known : xCo yX10_known cX10_known 2 (some .boolean) := ⟨coX10_known, by decide +kernel, by decide⟩
theorem cqX10_painted : xCo yX10_painted cX10_painted 4 (some .int) := ⟨coX10_painted, by decide +kernel, by decide⟩
theorem cqX5_knownBits : xCo yX5_knownBits cX5_knownBits 4 (some .int) := ⟨coX5_knownBits, by decide +kernel, by decide⟩
theorem cqX5_knownSize : xCo yX5_knownSize cX5_knownSize 1 (some .int) := ⟨coX5_knownSize, by decide +kernel, by decide⟩
theorem cqX10_makesKnownSo : xCo yX10_makesKnownSo cX10_makesKnownSo 5 (some .boolean) := ⟨coX10_makesKnownSo, by decide +kernel, by decide⟩
theorem cqX0_paintAlone : xCo yX0_paintAlone cX0_paintAlone 3 none := ⟨coX0_paintAlone, by decide +kernel, by decide⟩
theorem cqX5_lastYearOf : xCo yX5_lastYearOf cX5_lastYearOf 4 (some .int) := ⟨coX5_lastYearOf, by decide +kernel, by decide⟩
theorem cqX5_agree : xCo yX5_agree cX5_agree 6 (some .boolean) := ⟨coX5_agree, by decide +kernel, by decide⟩
theorem cqX10_tells : xCo yX10_tells cX10_tells 5 (some .int) := ⟨coX10_tells, by decide +kernel, by decide⟩
theorem cqX10_mostTelling : xCo yX10_mostTelling cX10_mostTelling 7 (some .int) := ⟨coX10_mostTelling, by decide +kernel, by decide⟩
theorem cqX10_waysOf : xCo yX10_waysOf cX10_waysOf 7 (some .int) := ⟨coX10_waysOf, by decide +kernel, by decide⟩
theorem cqX10_rests : xCo yX10_rests cX10_rests 2 (some .int) := ⟨coX10_rests, by decide +kernel, by decide⟩
theorem cqX10_restBits : xCo yX10_restBits cX10_restBits 6 (some .int) := ⟨coX10_restBits, by decide +kernel, by decide⟩
theorem cqX10_gains : xCo yX10_gains cX10_gains 9 (some .int) := ⟨coX10_gains, by decide +kernel, by decide⟩
theorem cqX0_strandsOfSide : xCo yX0_strandsOfSide cX0_strandsOfSide 4 (some .int) := ⟨coX0_strandsOfSide, by decide +kernel, by decide⟩
theorem cqX0_owedOn : xCo yX0_owedOn cX0_owedOn 4 (some .int) := ⟨coX0_owedOn, by decide +kernel, by decide⟩
theorem cqX10_rest : xCo yX10_rest cX10_rest 6 (some .int) := ⟨coX10_rest, by decide +kernel, by decide⟩
theorem cqX10_chance : xCo yX10_chance cX10_chance 9 (some .int) := ⟨coX10_chance, by decide +kernel, by decide⟩
theorem cqX10_befall : xCo yX10_befall cX10_befall 6 (some .long) := ⟨coX10_befall, by decide +kernel, by decide⟩
theorem cqX10_drawNext : xCo yX10_drawNext cX10_drawNext 2 (some .long) := ⟨coX10_drawNext, by decide +kernel, by decide⟩
theorem cqX10_tried : xCo yX10_tried cX10_tried 7 (some .int) := ⟨coX10_tried, by decide +kernel, by decide⟩
theorem cqX10_undo : xCo yX10_undo cX10_undo 1 (some .int) := ⟨coX10_undo, by decide +kernel, by decide⟩
theorem cqX10_keep : xCo yX10_keep cX10_keep 1 (some .int) := ⟨coX10_keep, by decide +kernel, by decide⟩
theorem cqX10_back : xCo yX10_back cX10_back 1 (some .int) := ⟨coX10_back, by decide +kernel, by decide⟩
theorem cqX10_count : xCo yX10_count cX10_count 2 (some .int) := ⟨coX10_count, by decide +kernel, by decide⟩
theorem cqX0_strandsAs : xCo yX0_strandsAs cX0_strandsAs 4 (some .int) := ⟨coX0_strandsAs, by decide +kernel, by decide⟩
theorem cqX0_crossingsAs : xCo yX0_crossingsAs cX0_crossingsAs 4 (some .int) := ⟨coX0_crossingsAs, by decide +kernel, by decide⟩
theorem cqX10_person : xCo yX10_person cX10_person 3 (some .int) := ⟨coX10_person, by decide +kernel, by decide⟩
theorem cqX11_init : xCo yX11_init cX11_init 1 none := ⟨coX11_init, by decide +kernel, by decide⟩
theorem cqX11_plain : xCo yX11_plain cX11_plain 2 none := ⟨coX11_plain, by decide +kernel, by decide⟩
theorem cqX11_keepText : xCo yX11_keepText cX11_keepText 2 none := ⟨coX11_keepText, by decide +kernel, by decide⟩
theorem cqX11_copies : xCo yX11_copies cX11_copies 3 none := ⟨coX11_copies, by decide +kernel, by decide⟩
theorem cqX11_begin : xCo yX11_begin cX11_begin 1 none := ⟨coX11_begin, by decide +kernel, by decide⟩
theorem cqX11_atFirst : xCo yX11_atFirst cX11_atFirst 3 none := ⟨coX11_atFirst, by decide +kernel, by decide⟩
theorem cqX11_plainTried : xCo yX11_plainTried cX11_plainTried 1 none := ⟨coX11_plainTried, by decide +kernel, by decide⟩
theorem cqX11_thrown : xCo yX11_thrown cX11_thrown 1 (some .int) := ⟨coX11_thrown, by decide +kernel, by decide⟩
theorem cqX11_feed : xCo yX11_feed cX11_feed 8 (some .int) := ⟨coX11_feed, by decide +kernel, by decide⟩
theorem cqX11_text : xCo yX11_text cX11_text 3 (some .int) := ⟨coX11_text, by decide +kernel, by decide⟩
theorem cqX11_token : xCo yX11_token cX11_token 1 none := ⟨coX11_token, by decide +kernel, by decide⟩
theorem cqX11_isSmall : xCo yX11_isSmall cX11_isSmall 2 (some .boolean) := ⟨coX11_isSmall, by decide +kernel, by decide⟩
theorem cqX11_wordAt : xCo yX11_wordAt cX11_wordAt 8 (some .int) := ⟨coX11_wordAt, by decide +kernel, by decide⟩
theorem cqX11_packed : xCo yX11_packed cX11_packed 5 (some .int) := ⟨coX11_packed, by decide +kernel, by decide⟩
theorem cqX11_isDigit : xCo yX11_isDigit cX11_isDigit 2 (some .boolean) := ⟨coX11_isDigit, by decide +kernel, by decide⟩
theorem cqX11_signToken : xCo yX11_signToken cX11_signToken 4 none := ⟨coX11_signToken, by decide +kernel, by decide⟩
theorem cqX11_lineRead : xCo yX11_lineRead cX11_lineRead 3 (some .boolean) := ⟨coX11_lineRead, by decide +kernel, by decide⟩
theorem cqX11_wrong : xCo yX11_wrong cX11_wrong 2 (some .boolean) := ⟨coX11_wrong, by decide +kernel, by decide⟩
theorem cqX11_personLine : xCo yX11_personLine cX11_personLine 2 (some .boolean) := ⟨coX11_personLine, by decide +kernel, by decide⟩
theorem cqX11_find : xCo yX11_find cX11_find 5 (some .int) := ⟨coX11_find, by decide +kernel, by decide⟩
theorem cqX11_isKey : xCo yX11_isKey cX11_isKey 2 (some .boolean) := ⟨coX11_isKey, by decide +kernel, by decide⟩
theorem cqX11_number : xCo yX11_number cX11_number 3 (some .boolean) := ⟨coX11_number, by decide +kernel, by decide⟩
theorem cqX11_isIn : xCo yX11_isIn cX11_isIn 3 (some .boolean) := ⟨coX11_isIn, by decide +kernel, by decide⟩
theorem cqX11_debtLine : xCo yX11_debtLine cX11_debtLine 3 (some .boolean) := ⟨coX11_debtLine, by decide +kernel, by decide⟩
theorem cqX11_personRead : xCo yX11_personRead cX11_personRead 2 (some .boolean) := ⟨coX11_personRead, by decide +kernel, by decide⟩
theorem cqX11_twistLine : xCo yX11_twistLine cX11_twistLine 2 (some .boolean) := ⟨coX11_twistLine, by decide +kernel, by decide⟩
theorem cqX11_twistRead : xCo yX11_twistRead cX11_twistRead 3 (some .boolean) := ⟨coX11_twistRead, by decide +kernel, by decide⟩
theorem cqX11_crossLine : xCo yX11_crossLine cX11_crossLine 2 (some .boolean) := ⟨coX11_crossLine, by decide +kernel, by decide⟩
theorem cqX11_onceLine : xCo yX11_onceLine cX11_onceLine 3 (some .boolean) := ⟨coX11_onceLine, by decide +kernel, by decide⟩
theorem cqX11_sumRead : xCo yX11_sumRead cX11_sumRead 1 (some .boolean) := ⟨coX11_sumRead, by decide +kernel, by decide⟩
theorem cqX11_isSign : xCo yX11_isSign cX11_isSign 2 (some .boolean) := ⟨coX11_isSign, by decide +kernel, by decide⟩
theorem cqX11_leafRead : xCo yX11_leafRead cX11_leafRead 2 (some .boolean) := ⟨coX11_leafRead, by decide +kernel, by decide⟩
theorem cqX11_waitsFor : xCo yX11_waitsFor cX11_waitsFor 2 none := ⟨coX11_waitsFor, by decide +kernel, by decide⟩
theorem cqX11_isCounted : xCo yX11_isCounted cX11_isCounted 1 (some .boolean) := ⟨coX11_isCounted, by decide +kernel, by decide⟩
theorem cqX11_nameMet : xCo yX11_nameMet cX11_nameMet 1 (some .int) := ⟨coX11_nameMet, by decide +kernel, by decide⟩
theorem cqX11_grown : xCo yX11_grown cX11_grown 4 none := ⟨coX11_grown, by decide +kernel, by decide⟩
theorem cqX11_signs : xCo yX11_signs cX11_signs 2 (some .boolean) := ⟨coX11_signs, by decide +kernel, by decide⟩
theorem cqX11_bind : xCo yX11_bind cX11_bind 5 none := ⟨coX11_bind, by decide +kernel, by decide⟩
theorem cqX11_rank : xCo yX11_rank cX11_rank 1 (some .int) := ⟨coX11_rank, by decide +kernel, by decide⟩
theorem cqX11_dropHeld : xCo yX11_dropHeld cX11_dropHeld 1 (some .int) := ⟨coX11_dropHeld, by decide +kernel, by decide⟩
theorem cqX11_fault : xCo yX11_fault cX11_fault 2 (some .int) := ⟨coX11_fault, by decide +kernel, by decide⟩
theorem cqX11_named : xCo yX11_named cX11_named 2 (some .int) := ⟨coX11_named, by decide +kernel, by decide⟩
theorem cqX11_person : xCo yX11_person cX11_person 3 (some .int) := ⟨coX11_person, by decide +kernel, by decide⟩
theorem cqX11_isPerson : xCo yX11_isPerson cX11_isPerson 2 (some .boolean) := ⟨coX11_isPerson, by decide +kernel, by decide⟩
theorem cqX11_fails : xCo yX11_fails cX11_fails 2 (some .int) := ⟨coX11_fails, by decide +kernel, by decide⟩
theorem cqX11_sumOwed : xCo yX11_sumOwed cX11_sumOwed 5 (some .int) := ⟨coX11_sumOwed, by decide +kernel, by decide⟩
theorem cqX11_isThere : xCo yX11_isThere cX11_isThere 3 (some .boolean) := ⟨coX11_isThere, by decide +kernel, by decide⟩
theorem cqX11_strand : xCo yX11_strand cX11_strand 3 (some .int) := ⟨coX11_strand, by decide +kernel, by decide⟩
theorem cqX11_isStrand : xCo yX11_isStrand cX11_isStrand 2 (some .boolean) := ⟨coX11_isStrand, by decide +kernel, by decide⟩
theorem cqX11_bearOf : xCo yX11_bearOf cX11_bearOf 5 (some .int) := ⟨coX11_bearOf, by decide +kernel, by decide⟩
theorem cqX11_layNames : xCo yX11_layNames cX11_layNames 4 none := ⟨coX11_layNames, by decide +kernel, by decide⟩
theorem cqX11_twinOf : xCo yX11_twinOf cX11_twinOf 4 (some .int) := ⟨coX11_twinOf, by decide +kernel, by decide⟩
theorem cqX11_boundLaw : xCo yX11_boundLaw cX11_boundLaw 6 (some .int) := ⟨coX11_boundLaw, by decide +kernel, by decide⟩
theorem cqX11_lawOf : xCo yX11_lawOf cX11_lawOf 3 (some .long) := ⟨coX11_lawOf, by decide +kernel, by decide⟩
theorem cqX11_valueOf : xCo yX11_valueOf cX11_valueOf 6 (some .long) := ⟨coX11_valueOf, by decide +kernel, by decide⟩
theorem cqX11_bounded : xCo yX11_bounded cX11_bounded 3 (some .long) := ⟨coX11_bounded, by decide +kernel, by decide⟩
theorem cqX11_times : xCo yX11_times cX11_times 6 (some .long) := ⟨coX11_times, by decide +kernel, by decide⟩
theorem cqX11_compares : xCo yX11_compares cX11_compares 5 (some .boolean) := ⟨coX11_compares, by decide +kernel, by decide⟩
theorem cqX11_crossing : xCo yX11_crossing cX11_crossing 3 (some .int) := ⟨coX11_crossing, by decide +kernel, by decide⟩
theorem cqX11_law : xCo yX11_law cX11_law 5 (some .long) := ⟨coX11_law, by decide +kernel, by decide⟩
theorem cqX11_bears : xCo yX11_bears cX11_bears 1 (some .int) := ⟨coX11_bears, by decide +kernel, by decide⟩
theorem cqX11_bridge : xCo yX11_bridge cX11_bridge 6 (some .int) := ⟨coX11_bridge, by decide +kernel, by decide⟩
theorem cqX11_sag : xCo yX11_sag cX11_sag 2 (some .int) := ⟨coX11_sag, by decide +kernel, by decide⟩
theorem cqX11_sagOf : xCo yX11_sagOf cX11_sagOf 3 (some .int) := ⟨coX11_sagOf, by decide +kernel, by decide⟩
theorem cqX11_tie : xCo yX11_tie cX11_tie 6 (some .int) := ⟨coX11_tie, by decide +kernel, by decide⟩
theorem cqX11_remember : xCo yX11_remember cX11_remember 2 none := ⟨coX11_remember, by decide +kernel, by decide⟩
theorem cqX11_put : xCo yX11_put cX11_put 4 none := ⟨coX11_put, by decide +kernel, by decide⟩
theorem cqX11_forgive : xCo yX11_forgive cX11_forgive 2 (some .boolean) := ⟨coX11_forgive, by decide +kernel, by decide⟩
theorem cqX11_pay : xCo yX11_pay cX11_pay 2 (some .boolean) := ⟨coX11_pay, by decide +kernel, by decide⟩
theorem cqX11_paid : xCo yX11_paid cX11_paid 3 none := ⟨coX11_paid, by decide +kernel, by decide⟩
theorem cqX11_twist : xCo yX11_twist cX11_twist 3 (some .boolean) := ⟨coX11_twist, by decide +kernel, by decide⟩
theorem cqX11_untwists : xCo yX11_untwists cX11_untwists 3 none := ⟨coX11_untwists, by decide +kernel, by decide⟩
theorem cqX11_cross : xCo yX11_cross cX11_cross 3 (some .int) := ⟨coX11_cross, by decide +kernel, by decide⟩
theorem cqX11_years : xCo yX11_years cX11_years 3 (some .int) := ⟨coX11_years, by decide +kernel, by decide⟩
theorem cqX11_goOn : xCo yX11_goOn cX11_goOn 4 none := ⟨coX11_goOn, by decide +kernel, by decide⟩
theorem cqX11_crosses : xCo yX11_crosses cX11_crosses 5 none := ⟨coX11_crosses, by decide +kernel, by decide⟩
theorem cqX11_fraysBy : xCo yX11_fraysBy cX11_fraysBy 4 none := ⟨coX11_fraysBy, by decide +kernel, by decide⟩
theorem cqX11_order : xCo yX11_order cX11_order 7 (some .int) := ⟨coX11_order, by decide +kernel, by decide⟩
theorem cqX11_areThere : xCo yX11_areThere cX11_areThere 3 (some .boolean) := ⟨coX11_areThere, by decide +kernel, by decide⟩
theorem cqX11_isOf : xCo yX11_isOf cX11_isOf 2 (some .boolean) := ⟨coX11_isOf, by decide +kernel, by decide⟩
theorem cqX11_layOrder : xCo yX11_layOrder cX11_layOrder 5 none := ⟨coX11_layOrder, by decide +kernel, by decide⟩
theorem cqX11_canPay : xCo yX11_canPay cX11_canPay 4 (some .boolean) := ⟨coX11_canPay, by decide +kernel, by decide⟩
theorem cqX11_laySet : xCo yX11_laySet cX11_laySet 3 none := ⟨coX11_laySet, by decide +kernel, by decide⟩
theorem cqX11_layTried : xCo yX11_layTried cX11_layTried 2 none := ⟨coX11_layTried, by decide +kernel, by decide⟩
theorem cqX11_drop : xCo yX11_drop cX11_drop 5 (some .int) := ⟨coX11_drop, by decide +kernel, by decide⟩
theorem cqX11_manyOf : xCo yX11_manyOf cX11_manyOf 3 (some .int) := ⟨coX11_manyOf, by decide +kernel, by decide⟩
theorem cqX11_loan : xCo yX11_loan cX11_loan 4 (some .int) := ⟨coX11_loan, by decide +kernel, by decide⟩
theorem cqX11_strike : xCo yX11_strike cX11_strike 5 (some .int) := ⟨coX11_strike, by decide +kernel, by decide⟩
theorem cqX11_twists : xCo yX11_twists cX11_twists 2 (some .int) := ⟨coX11_twists, by decide +kernel, by decide⟩
theorem cqX11_layTwists : xCo yX11_layTwists cX11_layTwists 10 none := ⟨coX11_layTwists, by decide +kernel, by decide⟩
theorem cqX11_mostOf : xCo yX11_mostOf cX11_mostOf 3 (some .int) := ⟨coX11_mostOf, by decide +kernel, by decide⟩
theorem cqX11_isTwin : xCo yX11_isTwin cX11_isTwin 7 (some .boolean) := ⟨coX11_isTwin, by decide +kernel, by decide⟩
theorem cqX11_partner : xCo yX11_partner cX11_partner 3 (some .int) := ⟨coX11_partner, by decide +kernel, by decide⟩
theorem cqX11_life : xCo yX11_life cX11_life 3 (some .int) := ⟨coX11_life, by decide +kernel, by decide⟩
theorem cqX11_ahead : xCo yX11_ahead cX11_ahead 5 (some .int) := ⟨coX11_ahead, by decide +kernel, by decide⟩
theorem cqX11_see : xCo yX11_see cX11_see 5 (some .int) := ⟨coX11_see, by decide +kernel, by decide⟩
theorem cqX11_noted : xCo yX11_noted cX11_noted 5 (some .int) := ⟨coX11_noted, by decide +kernel, by decide⟩
theorem cqX11_strikes : xCo yX11_strikes cX11_strikes 2 (some .int) := ⟨coX11_strikes, by decide +kernel, by decide⟩
theorem cqX11_known : xCo yX11_known cX11_known 2 (some .boolean) := ⟨coX11_known, by decide +kernel, by decide⟩
theorem cqX11_painted : xCo yX11_painted cX11_painted 1 (some .int) := ⟨coX11_painted, by decide +kernel, by decide⟩
theorem cqX11_paintedBits : xCo yX11_paintedBits cX11_paintedBits 6 (some .int) := ⟨coX11_paintedBits, by decide +kernel, by decide⟩
theorem cqX11_knownBy : xCo yX11_knownBy cX11_knownBy 1 (some .int) := ⟨coX11_knownBy, by decide +kernel, by decide⟩
theorem cqX11_paintsOne : xCo yX11_paintsOne cX11_paintsOne 3 none := ⟨coX11_paintsOne, by decide +kernel, by decide⟩
theorem cqX11_isSo : xCo yX11_isSo cX11_isSo 5 (some .boolean) := ⟨coX11_isSo, by decide +kernel, by decide⟩
theorem cqX11_tells : xCo yX11_tells cX11_tells 11 (some .int) := ⟨coX11_tells, by decide +kernel, by decide⟩
theorem cqX11_rests : xCo yX11_rests cX11_rests 2 (some .int) := ⟨coX11_rests, by decide +kernel, by decide⟩
theorem cqX11_restAt : xCo yX11_restAt cX11_restAt 5 (some .int) := ⟨coX11_restAt, by decide +kernel, by decide⟩
theorem cqX11_layWar : xCo yX11_layWar cX11_layWar 5 none := ⟨coX11_layWar, by decide +kernel, by decide⟩
theorem cqX11_rest : xCo yX11_rest cX11_rest 3 (some .int) := ⟨coX11_rest, by decide +kernel, by decide⟩
theorem cqX11_chance : xCo yX11_chance cX11_chance 11 (some .int) := ⟨coX11_chance, by decide +kernel, by decide⟩
theorem cqX11_number1 : xCo yX11_number1 cX11_number1 2 (some .int) := ⟨coX11_number1, by decide +kernel, by decide⟩
theorem cqX11_tried : xCo yX11_tried cX11_tried 5 (some .int) := ⟨coX11_tried, by decide +kernel, by decide⟩
theorem cqX11_undo : xCo yX11_undo cX11_undo 1 (some .int) := ⟨coX11_undo, by decide +kernel, by decide⟩
theorem cqX11_take : xCo yX11_take cX11_take 4 none := ⟨coX11_take, by decide +kernel, by decide⟩
theorem cqX11_keep : xCo yX11_keep cX11_keep 2 (some .int) := ⟨coX11_keep, by decide +kernel, by decide⟩
theorem cqX11_back : xCo yX11_back cX11_back 2 (some .int) := ⟨coX11_back, by decide +kernel, by decide⟩
theorem cqX11_count : xCo yX11_count cX11_count 2 (some .int) := ⟨coX11_count, by decide +kernel, by decide⟩
theorem cqX11_manyHow : xCo yX11_manyHow cX11_manyHow 4 (some .int) := ⟨coX11_manyHow, by decide +kernel, by decide⟩
theorem cqX11_manyMade : xCo yX11_manyMade cX11_manyMade 4 (some .int) := ⟨coX11_manyMade, by decide +kernel, by decide⟩
