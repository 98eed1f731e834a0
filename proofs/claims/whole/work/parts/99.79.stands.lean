/-! what wordKind needs: a list's rest, a row of walking more -/
theorem drop_c {α : Type} {w u : List α} {x d : α} {j : Nat} (h : w.drop j = x :: u) : j < w.length ∧ w.getD j d = x ∧ w.drop (j + 1) = u := by
  have hl : j < w.length := by
    rcases Nat.lt_or_ge j w.length with z | z
    · exact z
    · rw [List.drop_eq_nil_of_le z] at h; cases h
  rw [List.drop_eq_getElem_cons hl] at h
  injection h with h1 h2
  exact ⟨hl, by rw [List.getD_eq_getElem?_getD, List.getElem?_eq_getElem hl, Option.getD_some]; exact h1, h2⟩
section GL
variable {K : xKt} {call : xCl} {ex : Bool} {X : Option (Nat × (Nat → Int32))} {y : MethodName} {cc : ByteArray} {pc : Nat} {ls : List (Option Value)} {st : List Value} {S : xS} {sh : List (xK × Nat)} {I : Nat → Nat → Int32} {J : Nat → Nat → Int64} {P : Nat → Nat → Nat}
theorem g_iinc5 (hK : xW K call ex X y cc) {a0 a1 a2 a3 a4 : Option Value} {x v : Int32} {n : Int} (hd : decode cc pc = .ok (.iinc 5 n, 3)) (hv : Int32.ofInt n = v) (hw : xw1 a4 = true) (k : K (pc + 3) (a0 :: a1 :: a2 :: a3 :: a4 :: some (.int (x + v)) :: ls) st S) : K pc (a0 :: a1 :: a2 :: a3 :: a4 :: some (.int x) :: ls) st S := g_step hK ⟨_, _, hd, rfl, rfl, rfl, rfl, x, rfl, by rw [hv]; exact (by
  show _ = xset (a0 :: a1 :: a2 :: a3 :: a4 :: some (.int x) :: ls) 5 (.int (x + v))
  cases a4 with
  | none => rfl
  | some v =>
    have hv : ¬ v.category = 2 := by simpa [xw1] using hw
    simp [xset, xset2, xclr, hv])⟩ rfl k
end GL
