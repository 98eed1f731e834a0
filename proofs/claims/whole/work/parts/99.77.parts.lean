/-! walking for any predicate of a place that a step carries back (by program, wip/gen2/glem.py) -/
abbrev xKt : Type := Nat → List (Option Value) → List Value → xS → Prop
def xW (K : xKt) (call : xCl) (ex : Bool) (X : Option (Nat × (Nat → Int32))) (y : MethodName) (cc : ByteArray) : Prop := ∀ pc ls st S pc1 ls1 s1 S1, xSt call ex X y cc pc ls st S pc1 ls1 s1 S1 → S1.1 = S.1 → K pc1 ls1 s1 S1 → K pc ls st S
section GL
variable {K : xKt} {call : xCl} {ex : Bool} {X : Option (Nat × (Nat → Int32))} {y : MethodName} {cc : ByteArray} {pc : Nat} {ls : List (Option Value)} {st : List Value} {S : xS} {sh : List (xK × Nat)} {I : Nat → Nat → Int32} {J : Nat → Nat → Int64} {P : Nat → Nat → Nat}
theorem g_step (hK : xW K call ex X y cc) {pc1 : Nat} {ls1 : List (Option Value)} {s1 : List Value} {S1 : xS} (h : xSt call ex X y cc pc ls st S pc1 ls1 s1 S1) (hs : S1.1 = S.1) (k : K pc1 ls1 s1 S1) : K pc ls st S := hK _ _ _ _ _ _ _ _ h hs k
theorem g_iconst (hK : xW K call ex X y cc) {n : Int} {v : Int32} (hd : decode cc pc = .ok (.iconst n, 1)) (hv : Int32.ofInt n = v) (k : K (pc + 1) ls (.int v :: st) S) : K pc ls st S := g_step hK ⟨_, _, hd, rfl, ⟨rfl, rfl, rfl⟩, by rw [hv]⟩ rfl k
theorem g_bipush (hK : xW K call ex X y cc) {n : Int} {v : Int32} (hd : decode cc pc = .ok (.bipush n, 2)) (hv : (Int8.ofInt n).toInt32 = v) (k : K (pc + 2) ls (.int v :: st) S) : K pc ls st S := g_step hK ⟨_, _, hd, rfl, ⟨rfl, rfl, rfl⟩, by rw [hv]⟩ rfl k
theorem g_sipush (hK : xW K call ex X y cc) {n : Int} {v : Int32} (hd : decode cc pc = .ok (.sipush n, 3)) (hv : (Int16.ofInt n).toInt32 = v) (k : K (pc + 3) ls (.int v :: st) S) : K pc ls st S := g_step hK ⟨_, _, hd, rfl, ⟨rfl, rfl, rfl⟩, by rw [hv]⟩ rfl k
theorem g_iload (hK : xW K call ex X y cc) {i : Nat} {x : Int32} (hd : decode cc pc = .ok (.iload i, 2)) (hl : ls[i]? = some (some (.int x))) (k : K (pc + 2) ls (.int x :: st) S) : K pc ls st S := g_step hK ⟨_, _, hd, rfl, ⟨rfl, rfl, rfl⟩, _, hl, rfl⟩ rfl k
theorem g_iload_n (hK : xW K call ex X y cc) {i : Fin 4} {x : Int32} (hd : decode cc pc = .ok (.iload_n i, 1)) (hl : ls[(i : Nat)]? = some (some (.int x))) (k : K (pc + 1) ls (.int x :: st) S) : K pc ls st S := g_step hK ⟨_, _, hd, rfl, ⟨rfl, rfl, rfl⟩, _, hl, rfl⟩ rfl k
theorem g_aload_n (hK : xW K call ex X y cc) {i : Fin 4} {x : Nat} (hd : decode cc pc = .ok (.aload_n i, 1)) (hl : ls[(i : Nat)]? = some (some (.ref x))) (k : K (pc + 1) ls (.ref x :: st) S) : K pc ls st S := g_step hK ⟨_, _, hd, rfl, ⟨rfl, rfl, rfl⟩, _, ⟨x, Or.inl rfl⟩, hl, rfl⟩ rfl k
theorem g_aloadX_n (hK : xW K call ex X y cc) {i : Fin 4} {x : Nat} (hd : decode cc pc = .ok (.aload_n i, 1)) (hl : ls[(i : Nat)]? = some (some (.retAddr x))) (k : K (pc + 1) ls (.retAddr x :: st) S) : K pc ls st S := g_step hK ⟨_, _, hd, rfl, ⟨rfl, rfl, rfl⟩, _, ⟨x, Or.inr rfl⟩, hl, rfl⟩ rfl k
theorem g_istore_n1 (hK : xW K call ex X y cc) {a0 a1 : Option Value} {x : Int32} (hd : decode cc pc = .ok (.istore_n 1, 1)) (hw : xw1 a0 = true) (k : K (pc + 1) (a0 :: some (.int x) :: ls) st S) : K pc (a0 :: a1 :: ls) (.int x :: st) S := g_step hK ⟨_, _, hd, rfl, rfl, rfl, (by show 1 < List.length _; simp), x, rfl, (by
  show _ = xset (a0 :: a1 :: ls) 1 (.int x)
  cases a0 with
  | none => rfl
  | some v =>
    have hv : ¬ v.category = 2 := by simpa [xw1] using hw
    simp [xset, xset2, xclr, hv])⟩ rfl k
theorem g_istore_n2 (hK : xW K call ex X y cc) {a0 a1 a2 : Option Value} {x : Int32} (hd : decode cc pc = .ok (.istore_n 2, 1)) (hw : xw1 a1 = true) (k : K (pc + 1) (a0 :: a1 :: some (.int x) :: ls) st S) : K pc (a0 :: a1 :: a2 :: ls) (.int x :: st) S := g_step hK ⟨_, _, hd, rfl, rfl, rfl, (by show 2 < List.length _; simp), x, rfl, (by
  show _ = xset (a0 :: a1 :: a2 :: ls) 2 (.int x)
  cases a1 with
  | none => rfl
  | some v =>
    have hv : ¬ v.category = 2 := by simpa [xw1] using hw
    simp [xset, xset2, xclr, hv])⟩ rfl k
theorem g_iinc2 (hK : xW K call ex X y cc) {a0 a1 : Option Value} {x v : Int32} {n : Int} (hd : decode cc pc = .ok (.iinc 2 n, 3)) (hv : Int32.ofInt n = v) (hw : xw1 a1 = true) (k : K (pc + 3) (a0 :: a1 :: some (.int (x + v)) :: ls) st S) : K pc (a0 :: a1 :: some (.int x) :: ls) st S := g_step hK ⟨_, _, hd, rfl, rfl, rfl, rfl, x, rfl, by rw [hv]; exact (by
  show _ = xset (a0 :: a1 :: some (.int x) :: ls) 2 (.int (x + v))
  cases a1 with
  | none => rfl
  | some v =>
    have hv : ¬ v.category = 2 := by simpa [xw1] using hw
    simp [xset, xset2, xclr, hv])⟩ rfl k
theorem g_istore_n3 (hK : xW K call ex X y cc) {a0 a1 a2 a3 : Option Value} {x : Int32} (hd : decode cc pc = .ok (.istore_n 3, 1)) (hw : xw1 a2 = true) (k : K (pc + 1) (a0 :: a1 :: a2 :: some (.int x) :: ls) st S) : K pc (a0 :: a1 :: a2 :: a3 :: ls) (.int x :: st) S := g_step hK ⟨_, _, hd, rfl, rfl, rfl, (by show 3 < List.length _; simp), x, rfl, (by
  show _ = xset (a0 :: a1 :: a2 :: a3 :: ls) 3 (.int x)
  cases a2 with
  | none => rfl
  | some v =>
    have hv : ¬ v.category = 2 := by simpa [xw1] using hw
    simp [xset, xset2, xclr, hv])⟩ rfl k
theorem g_iinc3 (hK : xW K call ex X y cc) {a0 a1 a2 : Option Value} {x v : Int32} {n : Int} (hd : decode cc pc = .ok (.iinc 3 n, 3)) (hv : Int32.ofInt n = v) (hw : xw1 a2 = true) (k : K (pc + 3) (a0 :: a1 :: a2 :: some (.int (x + v)) :: ls) st S) : K pc (a0 :: a1 :: a2 :: some (.int x) :: ls) st S := g_step hK ⟨_, _, hd, rfl, rfl, rfl, rfl, x, rfl, by rw [hv]; exact (by
  show _ = xset (a0 :: a1 :: a2 :: some (.int x) :: ls) 3 (.int (x + v))
  cases a2 with
  | none => rfl
  | some v =>
    have hv : ¬ v.category = 2 := by simpa [xw1] using hw
    simp [xset, xset2, xclr, hv])⟩ rfl k
theorem g_istore4 (hK : xW K call ex X y cc) {a0 a1 a2 a3 a4 : Option Value} {x : Int32} (hd : decode cc pc = .ok (.istore 4, 2)) (hw : xw1 a3 = true) (k : K (pc + 2) (a0 :: a1 :: a2 :: a3 :: some (.int x) :: ls) st S) : K pc (a0 :: a1 :: a2 :: a3 :: a4 :: ls) (.int x :: st) S := g_step hK ⟨_, _, hd, rfl, rfl, rfl, (by show 4 < List.length _; simp), x, rfl, (by
  show _ = xset (a0 :: a1 :: a2 :: a3 :: a4 :: ls) 4 (.int x)
  cases a3 with
  | none => rfl
  | some v =>
    have hv : ¬ v.category = 2 := by simpa [xw1] using hw
    simp [xset, xset2, xclr, hv])⟩ rfl k
theorem g_iinc4 (hK : xW K call ex X y cc) {a0 a1 a2 a3 : Option Value} {x v : Int32} {n : Int} (hd : decode cc pc = .ok (.iinc 4 n, 3)) (hv : Int32.ofInt n = v) (hw : xw1 a3 = true) (k : K (pc + 3) (a0 :: a1 :: a2 :: a3 :: some (.int (x + v)) :: ls) st S) : K pc (a0 :: a1 :: a2 :: a3 :: some (.int x) :: ls) st S := g_step hK ⟨_, _, hd, rfl, rfl, rfl, rfl, x, rfl, by rw [hv]; exact (by
  show _ = xset (a0 :: a1 :: a2 :: a3 :: some (.int x) :: ls) 4 (.int (x + v))
  cases a3 with
  | none => rfl
  | some v =>
    have hv : ¬ v.category = 2 := by simpa [xw1] using hw
    simp [xset, xset2, xclr, hv])⟩ rfl k
theorem g_istore5 (hK : xW K call ex X y cc) {a0 a1 a2 a3 a4 a5 : Option Value} {x : Int32} (hd : decode cc pc = .ok (.istore 5, 2)) (hw : xw1 a4 = true) (k : K (pc + 2) (a0 :: a1 :: a2 :: a3 :: a4 :: some (.int x) :: ls) st S) : K pc (a0 :: a1 :: a2 :: a3 :: a4 :: a5 :: ls) (.int x :: st) S := g_step hK ⟨_, _, hd, rfl, rfl, rfl, (by show 5 < List.length _; simp), x, rfl, (by
  show _ = xset (a0 :: a1 :: a2 :: a3 :: a4 :: a5 :: ls) 5 (.int x)
  cases a4 with
  | none => rfl
  | some v =>
    have hv : ¬ v.category = 2 := by simpa [xw1] using hw
    simp [xset, xset2, xclr, hv])⟩ rfl k
theorem g_istore6 (hK : xW K call ex X y cc) {a0 a1 a2 a3 a4 a5 a6 : Option Value} {x : Int32} (hd : decode cc pc = .ok (.istore 6, 2)) (hw : xw1 a5 = true) (k : K (pc + 2) (a0 :: a1 :: a2 :: a3 :: a4 :: a5 :: some (.int x) :: ls) st S) : K pc (a0 :: a1 :: a2 :: a3 :: a4 :: a5 :: a6 :: ls) (.int x :: st) S := g_step hK ⟨_, _, hd, rfl, rfl, rfl, (by show 6 < List.length _; simp), x, rfl, (by
  show _ = xset (a0 :: a1 :: a2 :: a3 :: a4 :: a5 :: a6 :: ls) 6 (.int x)
  cases a5 with
  | none => rfl
  | some v =>
    have hv : ¬ v.category = 2 := by simpa [xw1] using hw
    simp [xset, xset2, xclr, hv])⟩ rfl k
theorem g_iadd (hK : xW K call ex X y cc) {x z : Int32} (hd : decode cc pc = .ok (.iadd, 1)) (k : K (pc + 1) ls (.int (x + z) :: st) S) : K pc ls (.int z :: .int x :: st) S := g_step hK ⟨_, _, hd, rfl, ⟨rfl, rfl, rfl⟩, x, z, st, rfl, rfl⟩ rfl k
theorem g_isub (hK : xW K call ex X y cc) {x z : Int32} (hd : decode cc pc = .ok (.isub, 1)) (k : K (pc + 1) ls (.int (x - z) :: st) S) : K pc ls (.int z :: .int x :: st) S := g_step hK ⟨_, _, hd, rfl, ⟨rfl, rfl, rfl⟩, x, z, st, rfl, rfl⟩ rfl k
theorem g_iand (hK : xW K call ex X y cc) {x z : Int32} (hd : decode cc pc = .ok (.iand, 1)) (k : K (pc + 1) ls (.int (x &&& z) :: st) S) : K pc ls (.int z :: .int x :: st) S := g_step hK ⟨_, _, hd, rfl, ⟨rfl, rfl, rfl⟩, x, z, st, rfl, rfl⟩ rfl k
theorem g_lcmp (hK : xW K call ex X y cc) {x z : Int64} (hd : decode cc pc = .ok (.lcmp, 1)) (k : K (pc + 1) ls (.int (lg_cmp x z) :: st) S) : K pc ls (.long z :: .long x :: st) S := g_step hK ⟨_, _, hd, rfl, ⟨rfl, rfl, rfl⟩, x, z, st, rfl, rfl⟩ rfl k
theorem g_i2l (hK : xW K call ex X y cc) {x : Int32} (hd : decode cc pc = .ok (.i2l, 1)) (k : K (pc + 1) ls (.long x.toInt64 :: st) S) : K pc ls (.int x :: st) S := g_step hK ⟨_, _, hd, rfl, ⟨rfl, rfl, rfl⟩, x, st, rfl, rfl⟩ rfl k
theorem g_pop (hK : xW K call ex X y cc) {v : Value} (hd : decode cc pc = .ok (.pop, 1)) (hv : v.category = 1) (k : K (pc + 1) ls st S) : K pc ls (v :: st) S := g_step hK ⟨_, _, hd, rfl, ⟨rfl, rfl, rfl⟩, v, hv, rfl⟩ rfl k
theorem g_goto (hK : xW K call ex X y cc) (tgt : Nat) {off : Int} (hd : decode cc pc = .ok (.goto off, 3)) (ht : (pc : Int) + off = (tgt : Int)) (k : K tgt ls st S) : K pc ls st S := g_step hK ⟨_, _, hd, rfl, rfl, rfl, rfl, ht⟩ rfl k
theorem g_if_eq (hK : xW K call ex X y cc) (tgt : Nat) {x : Int32} {off : Int} (hd : decode cc pc = .ok (.ifCond .eq off, 3)) (ht : (pc : Int) + off = (tgt : Int)) (kt : x = 0 → K tgt ls st S) (kf : ¬ (x = 0) → K (pc + 3) ls st S) : K pc ls (.int x :: st) S := by
  by_cases h : x = 0
  · exact g_step hK ⟨_, _, hd, rfl, rfl, rfl, x, rfl, Or.inl ⟨h, ht⟩⟩ rfl (kt h)
  · exact g_step hK ⟨_, _, hd, rfl, rfl, rfl, x, rfl, Or.inr ⟨h, ⟨tgt, ht⟩, rfl⟩⟩ rfl (kf h)
theorem g_ic_eq (hK : xW K call ex X y cc) (tgt : Nat) {x z : Int32} {off : Int} (hd : decode cc pc = .ok (.if_icmp .eq off, 3)) (ht : (pc : Int) + off = (tgt : Int)) (kt : x = z → K tgt ls st S) (kf : ¬ (x = z) → K (pc + 3) ls st S) : K pc ls (.int z :: .int x :: st) S := by
  by_cases h : x = z
  · exact g_step hK ⟨_, _, hd, rfl, rfl, rfl, x, z, rfl, Or.inl ⟨h, ht⟩⟩ rfl (kt h)
  · exact g_step hK ⟨_, _, hd, rfl, rfl, rfl, x, z, rfl, Or.inr ⟨h, ⟨tgt, ht⟩, rfl⟩⟩ rfl (kf h)
theorem g_if_ne (hK : xW K call ex X y cc) (tgt : Nat) {x : Int32} {off : Int} (hd : decode cc pc = .ok (.ifCond .ne off, 3)) (ht : (pc : Int) + off = (tgt : Int)) (kt : ¬ x = 0 → K tgt ls st S) (kf : x = 0 → K (pc + 3) ls st S) : K pc ls (.int x :: st) S := by
  by_cases h : ¬ x = 0
  · exact g_step hK ⟨_, _, hd, rfl, rfl, rfl, x, rfl, Or.inl ⟨h, ht⟩⟩ rfl (kt h)
  · exact g_step hK ⟨_, _, hd, rfl, rfl, rfl, x, rfl, Or.inr ⟨h, ⟨tgt, ht⟩, rfl⟩⟩ rfl (kf (Decidable.not_not.mp h))
theorem g_ic_ne (hK : xW K call ex X y cc) (tgt : Nat) {x z : Int32} {off : Int} (hd : decode cc pc = .ok (.if_icmp .ne off, 3)) (ht : (pc : Int) + off = (tgt : Int)) (kt : ¬ x = z → K tgt ls st S) (kf : x = z → K (pc + 3) ls st S) : K pc ls (.int z :: .int x :: st) S := by
  by_cases h : ¬ x = z
  · exact g_step hK ⟨_, _, hd, rfl, rfl, rfl, x, z, rfl, Or.inl ⟨h, ht⟩⟩ rfl (kt h)
  · exact g_step hK ⟨_, _, hd, rfl, rfl, rfl, x, z, rfl, Or.inr ⟨h, ⟨tgt, ht⟩, rfl⟩⟩ rfl (kf (Decidable.not_not.mp h))
theorem g_if_lt (hK : xW K call ex X y cc) (tgt : Nat) {x : Int32} {off : Int} (hd : decode cc pc = .ok (.ifCond .lt off, 3)) (ht : (pc : Int) + off = (tgt : Int)) (kt : x < 0 → K tgt ls st S) (kf : ¬ (x < 0) → K (pc + 3) ls st S) : K pc ls (.int x :: st) S := by
  by_cases h : x < 0
  · exact g_step hK ⟨_, _, hd, rfl, rfl, rfl, x, rfl, Or.inl ⟨h, ht⟩⟩ rfl (kt h)
  · exact g_step hK ⟨_, _, hd, rfl, rfl, rfl, x, rfl, Or.inr ⟨h, ⟨tgt, ht⟩, rfl⟩⟩ rfl (kf h)
theorem g_ic_ge (hK : xW K call ex X y cc) (tgt : Nat) {x z : Int32} {off : Int} (hd : decode cc pc = .ok (.if_icmp .ge off, 3)) (ht : (pc : Int) + off = (tgt : Int)) (kt : z ≤ x → K tgt ls st S) (kf : ¬ (z ≤ x) → K (pc + 3) ls st S) : K pc ls (.int z :: .int x :: st) S := by
  by_cases h : z ≤ x
  · exact g_step hK ⟨_, _, hd, rfl, rfl, rfl, x, z, rfl, Or.inl ⟨h, ht⟩⟩ rfl (kt h)
  · exact g_step hK ⟨_, _, hd, rfl, rfl, rfl, x, z, rfl, Or.inr ⟨h, ⟨tgt, ht⟩, rfl⟩⟩ rfl (kf h)
theorem g_ic_gt (hK : xW K call ex X y cc) (tgt : Nat) {x z : Int32} {off : Int} (hd : decode cc pc = .ok (.if_icmp .gt off, 3)) (ht : (pc : Int) + off = (tgt : Int)) (kt : z < x → K tgt ls st S) (kf : ¬ (z < x) → K (pc + 3) ls st S) : K pc ls (.int z :: .int x :: st) S := by
  by_cases h : z < x
  · exact g_step hK ⟨_, _, hd, rfl, rfl, rfl, x, z, rfl, Or.inl ⟨h, ht⟩⟩ rfl (kt h)
  · exact g_step hK ⟨_, _, hd, rfl, rfl, rfl, x, z, rfl, Or.inr ⟨h, ⟨tgt, ht⟩, rfl⟩⟩ rfl (kf h)
theorem g_tsO (hK : xW K call ex X y cc) (tgt : Nat) {x : Int32} {d lo hi : Int} {offs : Array Int} {len : Nat} (hd : decode cc pc = .ok (.tableswitch d lo hi offs, len)) (hx : x.toInt < lo ∨ hi < x.toInt) (ht : (pc : Int) + d = (tgt : Int)) (k : K tgt ls st S) : K pc ls (.int x :: st) S := g_step hK ⟨_, _, hd, rfl, rfl, x, rfl, Or.inl ⟨hx, ht⟩⟩ rfl k
theorem g_tsI (hK : xW K call ex X y cc) (tgt : Nat) {x : Int32} {d lo hi : Int} {offs : Array Int} {len : Nat} {off : Int} (hd : decode cc pc = .ok (.tableswitch d lo hi offs, len)) (h1 : ¬ x.toInt < lo) (h2 : ¬ hi < x.toInt) (ho : offs[(x.toInt - lo).toNat]? = some off) (ht : (pc : Int) + off = (tgt : Int)) (k : K tgt ls st S) : K pc ls (.int x :: st) S := g_step hK ⟨_, _, hd, rfl, rfl, x, rfl, Or.inr ⟨h1, h2, off, ho, ht⟩⟩ rfl k
theorem g_getI (hK : xW K call ex X y cc) {idx ci k : Nat} {ty : FieldType} {N a : Nat} (hd : decode cc pc = .ok (.getfield idx, 3)) (hf : xFl y.cls idx ci k ty) (hs : sh[a]? = some (.inl ci, N)) (hk : k < N) (hz : xfk ci k = 0) (kk : K (pc + 3) ls (.int (I a k) :: st) (sh, I, J, P)) : K pc ls (.ref a :: st) (sh, I, J, P) := g_step hK ⟨_, _, hd, rfl, ⟨rfl, rfl, rfl⟩, ci, k, ty, N, a, st, hf, hs, hk, rfl, by simp [xav, hz, gI, gJ]⟩ rfl kk
theorem g_getR (hK : xW K call ex X y cc) {idx ci k : Nat} {ty : FieldType} {N a : Nat} (hd : decode cc pc = .ok (.getfield idx, 3)) (hf : xFl y.cls idx ci k ty) (hs : sh[a]? = some (.inl ci, N)) (hk : k < N) (hz : xfk ci k = 2) {v : Nat} (hv : P a k = v + 1) (kk : K (pc + 3) ls (.ref v :: st) (sh, I, J, P)) : K pc ls (.ref a :: st) (sh, I, J, P) := g_step hK ⟨_, _, hd, rfl, ⟨rfl, rfl, rfl⟩, ci, k, ty, N, a, st, hf, hs, hk, rfl, by simp [xav, hz, gP, hv, xrv]⟩ rfl kk
theorem g_ial (hK : xW K call ex X y cc) {i : Int32} {a n : Nat} (hd : decode cc pc = .ok (.iaload, 1)) (hs : sh[a]? = some (.inr 0, n)) (hi : vp_in i n) (kk : K (pc + 1) ls (.int (I a i.toNatClampNeg) :: st) (sh, I, J, P)) : K pc ls (.int i :: .ref a :: st) (sh, I, J, P) := g_step hK ⟨_, _, hd, rfl, ⟨rfl, rfl, rfl⟩, i, st, Or.inl ⟨a, n, rfl, hs, hi, rfl⟩⟩ rfl kk
theorem g_ialX (hK : xW K call ex X y cc) {i : Int32} {z L : Nat} {xs : Nat → Int32} (hd : decode cc pc = .ok (.iaload, 1)) (hX : X = some (L, xs)) (hi : vp_in i L) (kk : K (pc + 1) ls (.int (xs i.toNatClampNeg) :: st) (sh, I, J, P)) : K pc ls (.int i :: .retAddr z :: st) (sh, I, J, P) := g_step hK ⟨_, _, hd, rfl, ⟨rfl, rfl, rfl⟩, i, st, Or.inr ⟨z, L, xs, hX, rfl, hi, rfl⟩⟩ rfl kk
theorem g_bal (hK : xW K call ex X y cc) {i : Int32} {a n : Nat} (hd : decode cc pc = .ok (.baload, 1)) (hs : sh[a]? = some (.inr 1, n)) (hi : vp_in i n) (kk : K (pc + 1) ls (.int (I a i.toNatClampNeg) :: st) (sh, I, J, P)) : K pc ls (.int i :: .ref a :: st) (sh, I, J, P) := g_step hK ⟨_, _, hd, rfl, ⟨rfl, rfl, rfl⟩, i, st, a, n, 1, Or.inl rfl, rfl, hs, hi, rfl⟩ rfl kk
theorem g_lal (hK : xW K call ex X y cc) {i : Int32} {a n : Nat} (hd : decode cc pc = .ok (.laload, 1)) (hs : sh[a]? = some (.inr 3, n)) (hi : vp_in i n) (kk : K (pc + 1) ls (.long (J a i.toNatClampNeg) :: st) (sh, I, J, P)) : K pc ls (.int i :: .ref a :: st) (sh, I, J, P) := g_step hK ⟨_, _, hd, rfl, ⟨rfl, rfl, rfl⟩, i, st, a, n, rfl, hs, hi, rfl⟩ rfl kk
theorem g_las (hK : xW K call ex X y cc) {i : Int32} {x : Int64} {a n : Nat} (hd : decode cc pc = .ok (.lastore, 1)) (hs : sh[a]? = some (.inr 3, n)) (hi : vp_in i n) (kk : K (pc + 1) ls st (sh, I, xu J a i.toNatClampNeg x, P)) : K pc ls (.long x :: .int i :: .ref a :: st) (sh, I, J, P) := g_step hK ⟨_, _, hd, rfl, rfl, rfl, x, i, a, n, rfl, hs, hi, rfl⟩ rfl kk
theorem g_alenX (hK : xW K call ex X y cc) {z L : Nat} {xs : Nat → Int32} (hd : decode cc pc = .ok (.arraylength, 1)) (hX : X = some (L, xs)) (kk : K (pc + 1) ls (.int (Int32.ofNat L) :: st) (sh, I, J, P)) : K pc ls (.retAddr z :: st) (sh, I, J, P) := g_step hK ⟨_, _, hd, rfl, ⟨rfl, rfl, rfl⟩, st, Or.inr ⟨z, L, xs, hX, rfl, rfl⟩⟩ rfl kk
theorem g_cV0i (hK : xW K call ex X y cc) {idx ci N a : Nat} {y2 : MethodName}  {q : Int32} {S1 : xS} (hd : decode cc pc = .ok (.invokevirtual idx, 3)) (hl : xVl y.cls idx y2 0 ci) (hs : S.1[a]? = some (.inl ci, N)) (hc : (st.map fun v => v.category).sum ≤ 8) (h : call y2 (.ref a :: []) S (some (.int q)) S1) (hsh : S1.1 = S.1) (kk : K (pc + 3) ls (.int q :: st) S1) : K pc ls (.ref a :: st) S := g_step hK ⟨_, _, hd, rfl, rfl, rfl, y2, 0, ci, [], a, N, st, (some (.int q)), hl, hs, rfl, rfl, hc, h, rfl⟩ hsh kk
theorem g_cV1i (hK : xW K call ex X y cc) {idx ci N a : Nat} {y2 : MethodName} {v1 : Value} {q : Int32} {S1 : xS} (hd : decode cc pc = .ok (.invokevirtual idx, 3)) (hl : xVl y.cls idx y2 1 ci) (hs : S.1[a]? = some (.inl ci, N)) (hc : (st.map fun v => v.category).sum ≤ 8) (h : call y2 (.ref a :: [v1]) S (some (.int q)) S1) (hsh : S1.1 = S.1) (kk : K (pc + 3) ls (.int q :: st) S1) : K pc ls (v1 :: .ref a :: st) S := g_step hK ⟨_, _, hd, rfl, rfl, rfl, y2, 1, ci, [v1], a, N, st, (some (.int q)), hl, hs, rfl, rfl, hc, h, rfl⟩ hsh kk
theorem g_cV2i (hK : xW K call ex X y cc) {idx ci N a : Nat} {y2 : MethodName} {v1 v2 : Value} {q : Int32} {S1 : xS} (hd : decode cc pc = .ok (.invokevirtual idx, 3)) (hl : xVl y.cls idx y2 2 ci) (hs : S.1[a]? = some (.inl ci, N)) (hc : (st.map fun v => v.category).sum ≤ 8) (h : call y2 (.ref a :: [v1, v2]) S (some (.int q)) S1) (hsh : S1.1 = S.1) (kk : K (pc + 3) ls (.int q :: st) S1) : K pc ls (v2 :: v1 :: .ref a :: st) S := g_step hK ⟨_, _, hd, rfl, rfl, rfl, y2, 2, ci, [v1, v2], a, N, st, (some (.int q)), hl, hs, rfl, rfl, hc, h, rfl⟩ hsh kk
theorem g_cV3i (hK : xW K call ex X y cc) {idx ci N a : Nat} {y2 : MethodName} {v1 v2 v3 : Value} {q : Int32} {S1 : xS} (hd : decode cc pc = .ok (.invokevirtual idx, 3)) (hl : xVl y.cls idx y2 3 ci) (hs : S.1[a]? = some (.inl ci, N)) (hc : (st.map fun v => v.category).sum ≤ 8) (h : call y2 (.ref a :: [v1, v2, v3]) S (some (.int q)) S1) (hsh : S1.1 = S.1) (kk : K (pc + 3) ls (.int q :: st) S1) : K pc ls (v3 :: v2 :: v1 :: .ref a :: st) S := g_step hK ⟨_, _, hd, rfl, rfl, rfl, y2, 3, ci, [v1, v2, v3], a, N, st, (some (.int q)), hl, hs, rfl, rfl, hc, h, rfl⟩ hsh kk
theorem g_cV4i (hK : xW K call ex X y cc) {idx ci N a : Nat} {y2 : MethodName} {v1 v2 v3 v4 : Value} {q : Int32} {S1 : xS} (hd : decode cc pc = .ok (.invokevirtual idx, 3)) (hl : xVl y.cls idx y2 4 ci) (hs : S.1[a]? = some (.inl ci, N)) (hc : (st.map fun v => v.category).sum ≤ 8) (h : call y2 (.ref a :: [v1, v2, v3, v4]) S (some (.int q)) S1) (hsh : S1.1 = S.1) (kk : K (pc + 3) ls (.int q :: st) S1) : K pc ls (v4 :: v3 :: v2 :: v1 :: .ref a :: st) S := g_step hK ⟨_, _, hd, rfl, rfl, rfl, y2, 4, ci, [v1, v2, v3, v4], a, N, st, (some (.int q)), hl, hs, rfl, rfl, hc, h, rfl⟩ hsh kk
theorem g_cV5i (hK : xW K call ex X y cc) {idx ci N a : Nat} {y2 : MethodName} {v1 v2 v3 v4 v5 : Value} {q : Int32} {S1 : xS} (hd : decode cc pc = .ok (.invokevirtual idx, 3)) (hl : xVl y.cls idx y2 5 ci) (hs : S.1[a]? = some (.inl ci, N)) (hc : (st.map fun v => v.category).sum ≤ 8) (h : call y2 (.ref a :: [v1, v2, v3, v4, v5]) S (some (.int q)) S1) (hsh : S1.1 = S.1) (kk : K (pc + 3) ls (.int q :: st) S1) : K pc ls (v5 :: v4 :: v3 :: v2 :: v1 :: .ref a :: st) S := g_step hK ⟨_, _, hd, rfl, rfl, rfl, y2, 5, ci, [v1, v2, v3, v4, v5], a, N, st, (some (.int q)), hl, hs, rfl, rfl, hc, h, rfl⟩ hsh kk
end GL
/-! the machine's own goal is such a predicate -/
section GW
variable {p : Program} {l : Launch} {e : Env} {R : Room} {s : State} {m : MethodId} {args : Array Value} {below : List Frame} {meth : Method} {c : Code} {Q : State → Prop} {s0 : State} {a0 : Array Value} {D : va_G} {t : Nat → ClassId} {b nL : Nat} {y : MethodName} {cc : ByteArray} {ret : Option FieldType} {X : Option (Nat × (Nat → Int32))} {call : xCl} {d : Nat}
theorem xG_W (C : xC s0 a0 D t) (M : xMx p s m meth c s0 y cc nL ret) (hX : ∀ L xs, X = some (L, xs) → va_X b L xs s s0.heap ∧ b < s0.heap.size) (hcall : ∀ y vs S r S', call y vs S r S' → xM l s0 D t b false d y vs S r S') (hR : d + 1 ≤ R.frames ∧ 80 * (d + 1) ≤ R.locals) {cells slots : Nat} (hc : cells ≤ R.cells) (hs : slots ≤ R.slots) : xW (xG p l e R s m args below meth c Q s0 D t b nL cells slots) call false X y cc := by
  intro pc ls st S pc1 ls1 s1 S1 h hsh k
  have e1 : S1.1.length - S.1.length = 0 := by rw [hsh]; exact Nat.sub_self _
  have e2 : xus S1 - xus S = 0 := by rw [show xus S1 = xus S from by unfold xus; rw [hsh]]; exact Nat.sub_self _
  refine x_step C M hX hcall hR h (fun q => by cases q) (by rw [e1]; exact hc) (by rw [e2]; exact hs) ?_
  rw [e1, e2]
  exact k
theorem xG_iret (M : xMx p s m meth c s0 y cc nL ret) {cells slots pc : Nat} {ls : List (Option Value)} {x : Int32} {S : xS} (hd : decode cc pc = .ok (.ireturn, 1)) {ty : FieldType} (hr : ret = some ty) (hn : narrow ty (.int x) = .int x) : xG p l e R s m args below meth c (MQ below (fun _ _ oc u => oc = .returned ((some (Value.int x)).map (xcv b s0.heap.size)) ∧ xH s0 D t b S u.heap) args s cells slots (fun q => s0.heap.size ≤ q)) s0 D t b nL cells slots pc ls [.int x] S := by
  obtain ⟨hx, hb, hml, hr2, hlk, hown, hnm, hW⟩ := M
  subst hr
  intro H locs lr hL hH hlo
  exact W.zret hx hb hr2 hn (fun u hu _ => ⟨rfl, by rw [hu]; exact hH⟩) hlo hd hlk
/-- a contract out of a body that makes no cell -/
theorem x_body {ex : Bool} {k : Nat} (hco : xCo y cc nL ret) {vs : List Value} (hle : (lg_sl vs).length ≤ nL) {S S' : xS} {r : Option Value} (hr : r = none → ret = none) (hsh : S'.1 = S.1) (ls : List (Option Value)) (hls : xent vs nL = ls)
    (body : ∀ (p : Program) (e : Env) (s : State) (m : MethodId) (args : Array Value) (below : List Frame) (meth : Method) (c : Code), xMx p s m meth c s0 y cc nL ret →
      xG p l e (xrm k 0 0) s m args below meth c (MQ below (fun _ _ oc u => oc = .returned (r.map (xcv b s0.heap.size)) ∧ xH s0 D t b S' u.heap) args s 0 0 (fun q => s0.heap.size ≤ q)) s0 D t b nL 0 0 0 ls [] S) : xM l s0 D t b ex k y vs S r S' := by
  refine ⟨cc, nL, ret, hco.1, hco.2.2, hr, ?_⟩
  have e1 : S'.1.length - S.1.length = 0 := by rw [hsh]; exact Nat.sub_self _
  have e2 : xus S' - xus S = 0 := by rw [show xus S' = xus S from by unfold xus; rw [hsh]]; exact Nat.sub_self _
  rw [e1, e2]
  refine Met.ofW (cc := cc) (maxL := nL) (ret := ret) hco.2.1 rfl ?_
  intro p e s m args below meth c s₁ B hml hv
  obtain ⟨rfl, hW, hH, -⟩ := hv
  have hM : xMx p s m meth c s0 y cc nL ret := ⟨B.exec, B.bytes, hml, B.returns, B.notSynchronized, findClass_of_methodNamed B.named, (name_of_methodNamed B.named B.method).1, hW⟩
  have hl := lv_entry (vs.map (xcv b s0.heap.size)) (n := nL) (by rw [xsl_len]; exact hle)
  rw [lg_entry_eq]
  generalize (lg_sl (vs.map (xcv b s0.heap.size)) ++ List.replicate (nL - (lg_sl (vs.map (xcv b s0.heap.size))).length) Slot.unset).toArray = lr at hl ⊢
  have := body p e s m (vs.map (xcv b s0.heap.size)).toArray below meth c hM s.heap [] lr (by rw [← hls]; exact xent_L hle hl) hH (fun _ h => by cases h)
  exact this
end GW
