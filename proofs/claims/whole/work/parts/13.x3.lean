/-! a step of the abstract machine is a step of the machine: what moves no cell -/
section XA
variable {p : Program} {l : Launch} {e : Env} {R : Room} {s : State} {m : MethodId} {args : Array Value} {below : List Frame} {meth : Method} {c : Code} {Q : State → Prop} {s0 : State} {a0 : Array Value} {D : va_G} {t : Nat → ClassId} {b nL : Nat} {y : MethodName} {cc : ByteArray} {ret : Option FieldType} {ex : Bool} {X : Option (Nat × (Nat → Int32))} {call : xCl}
/-- the instructions of this part -/
def xA (i : Instr) : Bool := match i with
  | .iconst _ | .bipush _ | .sipush _ | .lconst _ | .ldc _ | .ldc_w _ | .ldc2_w _ | .iload _ | .iload_n _ | .lload _ | .lload_n _ | .aload _ | .aload_n _ | .istore _ | .istore_n _ | .lstore _ | .lstore_n _ | .astore _ | .astore_n _ | .iinc _ _ => true
  | .iadd | .isub | .imul | .iand | .ior | .ixor | .idiv | .irem | .ishl | .ishr | .iushr | .ladd | .lsub | .lmul | .land | .ldiv | .lrem | .lneg | .lcmp | .i2l | .l2i | .i2b | .dup | .dup2 | .pop | .goto _ | .ifCond _ _ | .if_icmp _ _ | .tableswitch _ _ _ _ => true
  | _ => false
set_option maxHeartbeats 4000000 in
theorem x_stepA (C : xC s0 a0 D t) (M : xMx p s m meth c s0 y cc nL ret) {cells slots pc len pc' : Nat} {ls ls' : List (Option Value)} {st st' : List Value} {S S' : xS} {i : Instr} (hd : decode cc pc = .ok (i, len)) (hi : xA i = true) (h : xSm call ex X y pc len ls st S pc' ls' st' S' i)
    (kk : xG p l e R s m args below meth c Q s0 D t b nL cells slots pc' ls' st' S') : xG p l e R s m args below meth c Q s0 D t b nL cells slots pc ls st S := by
  obtain ⟨hx, hb, hml, hr, hlk, hown, hnm, hW⟩ := M
  have hts := C.w hW (args := args)
  intro H locs lr hL hH hlo
  cases i with
  | iconst n =>
    obtain ⟨rfl, ⟨rfl, rfl, rfl⟩, rfl⟩ := h
    exact lv_iconst hx hb hd rfl (kk H locs lr hL hH hlo)
  | bipush n =>
    obtain ⟨rfl, ⟨rfl, rfl, rfl⟩, rfl⟩ := h
    exact lv_bipush hx hb hd rfl (kk H locs lr hL hH hlo)
  | sipush n =>
    obtain ⟨rfl, ⟨rfl, rfl, rfl⟩, rfl⟩ := h
    exact lv_sipush hx hb hd rfl (kk H locs lr hL hH hlo)
  | lconst n =>
    obtain ⟨rfl, ⟨rfl, rfl, rfl⟩, rfl⟩ := h
    exact lv_lconst hx hb hd rfl (kk H locs lr hL hH hlo)
  | ldc idx =>
    obtain ⟨rfl, ⟨rfl, rfl, rfl⟩, v, hv, rfl⟩ := h
    exact lv_ldc hx hb hown (hts _ hv) hd (kk H locs lr hL hH hlo)
  | ldc_w idx =>
    obtain ⟨rfl, ⟨rfl, rfl, rfl⟩, v, hv, rfl⟩ := h
    exact lv_ldcw hx hb hown (hts _ hv) hd (kk H locs lr hL hH hlo)
  | ldc2_w idx =>
    obtain ⟨rfl, ⟨rfl, rfl, rfl⟩, v, hv, rfl⟩ := h
    exact lv_ldc2 hx hb hown (hts _ hv) hd (kk H locs lr hL hH hlo)
  | iload k =>
    obtain ⟨rfl, ⟨rfl, rfl, rfl⟩, x, hv, rfl⟩ := h
    exact lv_iload hx hb hd (hL.at hv) (kk H locs lr hL hH hlo)
  | iload_n k =>
    obtain ⟨rfl, ⟨rfl, rfl, rfl⟩, x, hv, rfl⟩ := h
    exact lv_iload_n hx hb hd rfl (hL.at hv) (kk H locs lr hL hH hlo)
  | lload k =>
    obtain ⟨rfl, ⟨rfl, rfl, rfl⟩, x, hv, rfl⟩ := h
    exact lv_lload hx hb hd (hL.at hv) (kk H locs lr hL hH hlo)
  | lload_n k =>
    obtain ⟨rfl, ⟨rfl, rfl, rfl⟩, x, hv, rfl⟩ := h
    exact lv_lload_n hx hb hd rfl (hL.at hv) (kk H locs lr hL hH hlo)
  | aload k =>
    obtain ⟨rfl, ⟨rfl, rfl, rfl⟩, v, ⟨a, rfl | rfl⟩, hv, rfl⟩ := h
    · exact lv_aload hx hb hd (hL.at hv) (kk H locs lr hL hH hlo)
    · exact lv_aload hx hb hd (hL.at hv) (kk H locs lr hL hH hlo)
  | aload_n k =>
    obtain ⟨rfl, ⟨rfl, rfl, rfl⟩, v, ⟨a, rfl | rfl⟩, hv, rfl⟩ := h
    · exact lv_aload_n hx hb hd rfl (hL.at hv) (kk H locs lr hL hH hlo)
    · exact lv_aload_n hx hb hd rfl (hL.at hv) (kk H locs lr hL hH hlo)
  | istore k =>
    obtain ⟨rfl, rfl, rfl, hk, x, rfl, rfl⟩ := h
    exact lv_istore hx hb hd hL.1 (by have := hL.2; omega) rfl (fun lr' h' => kk H locs lr' (hL.set1 (v := .int x) (by have := hL.2; omega) h') hH hlo)
  | istore_n k =>
    obtain ⟨rfl, rfl, rfl, hk, x, rfl, rfl⟩ := h
    exact lv_istore_n hx hb hd rfl hL.1 (by have := hL.2; omega) rfl (fun lr' h' => kk H locs lr' (hL.set1 (v := .int x) (by have := hL.2; omega) h') hH hlo)
  | lstore k =>
    obtain ⟨rfl, rfl, rfl, hk, x, rfl, rfl⟩ := h
    exact lv_lstore hx hb hd hL.1 (by have := hL.2; omega) rfl (fun lr' h' => kk H locs lr' (hL.set2 (v := .long x) (by have := hL.2; omega) h') hH hlo)
  | lstore_n k =>
    obtain ⟨rfl, rfl, rfl, hk, x, rfl, rfl⟩ := h
    exact lv_lstore_n hx hb hd rfl hL.1 (by have := hL.2; omega) rfl (fun lr' h' => kk H locs lr' (hL.set2 (v := .long x) (by have := hL.2; omega) h') hH hlo)
  | astore k =>
    obtain ⟨rfl, rfl, rfl, hk, x, rfl, rfl⟩ := h
    exact lv_astore hx hb hd hL.1 (by have := hL.2; omega) rfl (fun lr' h' => kk H locs lr' (hL.set1 (v := .ref x) (by have := hL.2; omega) h') hH hlo)
  | astore_n k =>
    obtain ⟨rfl, rfl, rfl, hk, x, rfl, rfl⟩ := h
    exact lv_astore_n hx hb hd rfl hL.1 (by have := hL.2; omega) rfl (fun lr' h' => kk H locs lr' (hL.set1 (v := .ref x) (by have := hL.2; omega) h') hH hlo)
  | iinc k n =>
    obtain ⟨rfl, rfl, rfl, rfl, x, hv, rfl⟩ := h
    obtain ⟨j, hj⟩ := List.getElem?_of_mem ((xlv_mem (b := b) (B := s0.heap.size)).mpr ⟨_, hv, rfl⟩)
    have hk := (List.getElem?_eq_some_iff.mp hv).1
    exact lv_iinc hx hb hd hL.1 hj rfl (by have := hL.2; omega) rfl (fun lr' h' => kk H locs lr' (hL.set1 (v := .int (x + Int32.ofInt n)) (by have := hL.2; omega) h') hH hlo)
  | iadd =>
    obtain ⟨rfl, ⟨rfl, rfl, rfl⟩, x, z, r, rfl, rfl⟩ := h
    exact lv_iadd hx hb hd (kk H locs lr hL hH hlo)
  | isub =>
    obtain ⟨rfl, ⟨rfl, rfl, rfl⟩, x, z, r, rfl, rfl⟩ := h
    exact lv_isub hx hb hd (kk H locs lr hL hH hlo)
  | imul =>
    obtain ⟨rfl, ⟨rfl, rfl, rfl⟩, x, z, r, rfl, rfl⟩ := h
    exact lv_imul hx hb hd (kk H locs lr hL hH hlo)
  | iand =>
    obtain ⟨rfl, ⟨rfl, rfl, rfl⟩, x, z, r, rfl, rfl⟩ := h
    exact lv_iand hx hb hd (kk H locs lr hL hH hlo)
  | ior =>
    obtain ⟨rfl, ⟨rfl, rfl, rfl⟩, x, z, r, rfl, rfl⟩ := h
    exact lv_ior hx hb hd (kk H locs lr hL hH hlo)
  | ixor =>
    obtain ⟨rfl, ⟨rfl, rfl, rfl⟩, x, z, r, rfl, rfl⟩ := h
    exact lv_ixor hx hb hd (kk H locs lr hL hH hlo)
  | ishl =>
    obtain ⟨rfl, ⟨rfl, rfl, rfl⟩, x, z, r, rfl, rfl⟩ := h
    exact lv_ishl hx hb hd (kk H locs lr hL hH hlo)
  | ishr =>
    obtain ⟨rfl, ⟨rfl, rfl, rfl⟩, x, z, r, rfl, rfl⟩ := h
    exact lv_ishr hx hb hd (kk H locs lr hL hH hlo)
  | ladd =>
    obtain ⟨rfl, ⟨rfl, rfl, rfl⟩, x, z, r, rfl, rfl⟩ := h
    exact lv_ladd hx hb hd (kk H locs lr hL hH hlo)
  | lsub =>
    obtain ⟨rfl, ⟨rfl, rfl, rfl⟩, x, z, r, rfl, rfl⟩ := h
    exact lv_lsub hx hb hd (kk H locs lr hL hH hlo)
  | lmul =>
    obtain ⟨rfl, ⟨rfl, rfl, rfl⟩, x, z, r, rfl, rfl⟩ := h
    exact lv_lmul hx hb hd (kk H locs lr hL hH hlo)
  | land =>
    obtain ⟨rfl, ⟨rfl, rfl, rfl⟩, x, z, r, rfl, rfl⟩ := h
    exact lv_land hx hb hd (kk H locs lr hL hH hlo)
  | iushr =>
    obtain ⟨rfl, ⟨rfl, rfl, rfl⟩, x, z, r, rfl, rfl⟩ := h
    exact lv_iushr hx hb hd rfl (kk H locs lr hL hH hlo)
  | idiv =>
    obtain ⟨rfl, ⟨rfl, rfl, rfl⟩, x, z, r, hz, rfl, rfl⟩ := h
    exact lv_idiv hx hb hd hz (kk H locs lr hL hH hlo)
  | irem =>
    obtain ⟨rfl, ⟨rfl, rfl, rfl⟩, x, z, r, hz, rfl, rfl⟩ := h
    exact lv_irem hx hb hd hz (kk H locs lr hL hH hlo)
  | ldiv =>
    obtain ⟨rfl, ⟨rfl, rfl, rfl⟩, x, z, r, hz, rfl, rfl⟩ := h
    exact lv_ldiv hx hb hd hz (kk H locs lr hL hH hlo)
  | lrem =>
    obtain ⟨rfl, ⟨rfl, rfl, rfl⟩, x, z, r, hz, rfl, rfl⟩ := h
    exact lv_lrem hx hb hd hz (kk H locs lr hL hH hlo)
  | lneg =>
    obtain ⟨rfl, ⟨rfl, rfl, rfl⟩, x, r, rfl, rfl⟩ := h
    exact lv_lneg hx hb hd (kk H locs lr hL hH hlo)
  | lcmp =>
    obtain ⟨rfl, ⟨rfl, rfl, rfl⟩, x, z, r, rfl, rfl⟩ := h
    exact W.lcmp hx hb hd (kk H locs lr hL hH hlo)
  | i2l =>
    obtain ⟨rfl, ⟨rfl, rfl, rfl⟩, x, r, rfl, rfl⟩ := h
    exact lv_i2l hx hb hd rfl (kk H locs lr hL hH hlo)
  | l2i =>
    obtain ⟨rfl, ⟨rfl, rfl, rfl⟩, x, r, rfl, rfl⟩ := h
    exact lv_l2i hx hb hd rfl (kk H locs lr hL hH hlo)
  | i2b =>
    obtain ⟨rfl, ⟨rfl, rfl, rfl⟩, x, r, rfl, rfl⟩ := h
    exact lv_i2b hx hb hd rfl (kk H locs lr hL hH hlo)
  | dup =>
    obtain ⟨rfl, ⟨rfl, rfl, rfl⟩, v, r, hv, rfl, rfl⟩ := h
    exact lv_dup hx hb hd (by rw [xcv_cat]; exact hv) (kk H locs lr hL hH hlo)
  | dup2 =>
    obtain ⟨rfl, ⟨rfl, rfl, rfl⟩, ⟨v, u, r, hv, hu, rfl, rfl⟩ | ⟨v, r, hv, rfl, rfl⟩⟩ := h
    · exact lv_dup2_11 hx hb hd (by rw [xcv_cat]; exact hv) (by rw [xcv_cat]; exact hu) (kk H locs lr hL hH hlo)
    · exact lv_dup2_2 hx hb hd (by rw [xcv_cat]; exact hv) (kk H locs lr hL hH hlo)
  | pop =>
    obtain ⟨rfl, ⟨rfl, rfl, rfl⟩, v, hv, rfl⟩ := h
    exact lv_pop hx hb hd (by rw [xcv_cat]; exact hv) (kk H locs lr hL hH hlo)
  | goto off =>
    obtain ⟨rfl, rfl, rfl, rfl, ht⟩ := h
    exact lv_goto hx hb hd ht (kk H locs lr hL hH hlo)
  | ifCond c off =>
    obtain ⟨rfl, rfl, rfl, x, rfl, ⟨hc, ht⟩ | ⟨hc, ⟨tgt, ht⟩, rfl⟩⟩ := h
    · cases c with
      | eq => exact lv_if_eq hx hb hd ht (fun _ => kk H locs lr hL hH hlo) (fun h => by first | exact absurd hc h | exact absurd h hc)
      | ne => exact lv_if_ne hx hb hd ht (fun _ => kk H locs lr hL hH hlo) (fun h => by first | exact absurd hc h | exact absurd h hc)
      | lt => exact lv_if_lt hx hb hd ht (fun _ => kk H locs lr hL hH hlo) (fun h => by first | exact absurd hc h | exact absurd h hc)
      | ge => exact lv_if_ge hx hb hd ht (fun _ => kk H locs lr hL hH hlo) (fun h => by first | exact absurd hc h | exact absurd h hc)
      | gt => exact lv_if_gt hx hb hd ht (fun _ => kk H locs lr hL hH hlo) (fun h => by first | exact absurd hc h | exact absurd h hc)
      | le => exact lv_if_le hx hb hd ht (fun _ => kk H locs lr hL hH hlo) (fun h => by first | exact absurd hc h | exact absurd h hc)
    · cases c with
      | eq => exact lv_if_eq hx hb hd ht (fun h => absurd h hc) (fun _ => kk H locs lr hL hH hlo)
      | ne => exact lv_if_ne hx hb hd ht (fun h => absurd h hc) (fun _ => kk H locs lr hL hH hlo)
      | lt => exact lv_if_lt hx hb hd ht (fun h => absurd h hc) (fun _ => kk H locs lr hL hH hlo)
      | ge => exact lv_if_ge hx hb hd ht (fun h => absurd h hc) (fun _ => kk H locs lr hL hH hlo)
      | gt => exact lv_if_gt hx hb hd ht (fun h => absurd h hc) (fun _ => kk H locs lr hL hH hlo)
      | le => exact lv_if_le hx hb hd ht (fun h => absurd h hc) (fun _ => kk H locs lr hL hH hlo)
  | if_icmp c off =>
    obtain ⟨rfl, rfl, rfl, x, z, rfl, ⟨hc, ht⟩ | ⟨hc, ⟨tgt, ht⟩, rfl⟩⟩ := h
    · cases c with
      | eq => exact lv_icmp_eq hx hb hd ht (fun _ => kk H locs lr hL hH hlo) (fun h => by first | exact absurd hc h | exact absurd h hc)
      | ne => exact lv_icmp_ne hx hb hd ht (fun _ => kk H locs lr hL hH hlo) (fun h => by first | exact absurd hc h | exact absurd h hc)
      | lt => exact lv_icmp_lt hx hb hd ht (fun _ => kk H locs lr hL hH hlo) (fun h => by first | exact absurd hc h | exact absurd h hc)
      | ge => exact lv_icmp_ge hx hb hd ht (fun _ => kk H locs lr hL hH hlo) (fun h => by first | exact absurd hc h | exact absurd h hc)
      | gt => exact lv_icmp_gt hx hb hd ht (fun _ => kk H locs lr hL hH hlo) (fun h => by first | exact absurd hc h | exact absurd h hc)
      | le => exact lv_icmp_le hx hb hd ht (fun _ => kk H locs lr hL hH hlo) (fun h => by first | exact absurd hc h | exact absurd h hc)
    · cases c with
      | eq => exact lv_icmp_eq hx hb hd ht (fun h => absurd h hc) (fun _ => kk H locs lr hL hH hlo)
      | ne => exact lv_icmp_ne hx hb hd ht (fun h => absurd h hc) (fun _ => kk H locs lr hL hH hlo)
      | lt => exact lv_icmp_lt hx hb hd ht (fun h => absurd h hc) (fun _ => kk H locs lr hL hH hlo)
      | ge => exact lv_icmp_ge hx hb hd ht (fun h => absurd h hc) (fun _ => kk H locs lr hL hH hlo)
      | gt => exact lv_icmp_gt hx hb hd ht (fun h => absurd h hc) (fun _ => kk H locs lr hL hH hlo)
      | le => exact lv_icmp_le hx hb hd ht (fun h => absurd h hc) (fun _ => kk H locs lr hL hH hlo)
  | tableswitch d lo hi offs =>
    obtain ⟨rfl, rfl, x, rfl, ⟨hc, ht⟩ | ⟨h1, h2, off, ho, ht⟩⟩ := h
    · exact lv_tableOut hx hb hd hc ht (kk H locs lr hL hH hlo)
    · exact lv_tableIn hx hb hd h1 h2 ho ht (kk H locs lr hL hH hlo)
  | _ => exact absurd hi (by simp [xA])
end XA
