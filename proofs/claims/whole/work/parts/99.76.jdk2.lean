/-! length and charAt of a String constant -/
/-- a String constant of L bytes f, at a, and what its members read -/
def jdW (s0 : State) (a v L : Nat) (f : Nat → Int32) : Prop := L < 2 ^ 31 ∧ va_O "java/lang/String" a (jdA s0) s0 s0.heap ∧ va_OF "java/lang/String" "coder" "B" (.int 0) a (jdA s0) s0 s0.heap ∧ va_OF "java/lang/String" "value" "[B" (.ref v) a (jdA s0) s0 s0.heap ∧ va_T .byte v L (fun j => .int (f j)) (jdA s0) s0 s0.heap ∧ va_Z "java/lang/String" "COMPACT_STRINGS" "Z" (.int 1) (jdA s0) s0 s0.heap ∧ va_Zq "jdk/internal/util/Preconditions" "SIOOBE_FORMATTER" "Ljava/util/function/BiFunction;" (jdA s0) s0 s0.heap
section JM
variable {l : Launch} {s0 : State} {a0 : Array Value} {D : va_G} {t : Nat → ClassId} {a v L : Nat} {f : Nat → Int32}
theorem jd_coder (C : xC s0 a0 D t) (w : jdW s0 a v L f) (d : Nat) : jdM l s0 (d + 1) yJ0_coder_7d493 cJ0_coder_7d493 1 (some .byte) [.ref a] (some (.int 0)) := by
  refine jd_met (by decide) (by simp [lg_sl, Value.category]) ?_
  intro p e s m args below meth c lr M hl hS
  obtain ⟨hx, hb, hml, hr, hlk, hown, hnm, hW⟩ := M
  have hts := C.w hW (args := args)
  obtain ⟨hL, hO, hC, hV, hT, hZ, hF⟩ := w
  refine va_gets hx hb ((va_Z.moved hW.alike hZ).kept hS.2.1) va_S.rf hown (hts _ jf_38) (fun _ h => h) dJ0_coder_7d493_0 ?_
  refine lv_if_eq hx hb dJ0_coder_7d493_3 (tgt := 13) (by decide) (fun h => absurd h (by decide)) (fun _ => ?_)
  refine lv_aload_n hx hb dJ0_coder_7d493_6 rfl (lv_at hl 0 rfl) ?_
  refine vk_getf hx hb ((va_OF.moved hW.alike hC).kept hS.2.1) va_S.rf hown (hts _ jf_15) (fun _ h => h) dJ0_coder_7d493_7 ?_
  refine lv_goto hx hb dJ0_coder_7d493_10 (tgt := 14) (by decide) ?_
  exact W.zret hx hb hr (by decide) (fun u hu _ => ⟨rfl, hu⟩) (fun _ h => by cases h) dJ0_coder_7d493_14 hlk
theorem jd_latin (C : xC s0 a0 D t) (w : jdW s0 a v L f) (d : Nat) : jdM l s0 (d + 1) yJ0_isLatin1_aae02 cJ0_isLatin1_aae02 1 (some .boolean) [.ref a] (some (.int 1)) := by
  refine jd_met (by decide) (by simp [lg_sl, Value.category]) ?_
  intro p e s m args below meth c lr M hl hS
  obtain ⟨hx, hb, hml, hr, hlk, hown, hnm, hW⟩ := M
  have hts := C.w hW (args := args)
  obtain ⟨hL, hO, hC, hV, hT, hZ, hF⟩ := w
  refine va_gets hx hb ((va_Z.moved hW.alike hZ).kept hS.2.1) va_S.rf hown (hts _ jf_38) (fun _ h => h) dJ0_isLatin1_aae02_0 ?_
  refine lv_if_eq hx hb dJ0_isLatin1_aae02_3 (tgt := 17) (by decide) (fun h => absurd h (by decide)) (fun _ => ?_)
  refine lv_aload_n hx hb dJ0_isLatin1_aae02_6 rfl (lv_at hl 0 rfl) ?_
  refine vk_getf hx hb ((va_OF.moved hW.alike hC).kept hS.2.1) va_S.rf hown (hts _ jf_15) (fun _ h => h) dJ0_isLatin1_aae02_7 ?_
  refine lv_if_ne hx hb dJ0_isLatin1_aae02_10 (tgt := 17) (by decide) (fun h => absurd rfl h) (fun _ => ?_)
  refine lv_iconst hx hb (v := 1) dJ0_isLatin1_aae02_13 (by decide) ?_
  refine lv_goto hx hb dJ0_isLatin1_aae02_14 (tgt := 18) (by decide) ?_
  exact W.zret hx hb hr (by decide) (fun u hu _ => ⟨rfl, hu⟩) (fun _ h => by cases h) dJ0_isLatin1_aae02_18 hlk
theorem jd_len (C : xC s0 a0 D t) (w : jdW s0 a v L f) (d : Nat) : jdM l s0 (d + 2) yJ0_length_8abf5 cJ0_length_8abf5 1 (some .int) [.ref a] (some (.int (nI L))) := by
  refine jd_met (by decide) (by simp [lg_sl, Value.category]) ?_
  intro p e s m args below meth c lr M hl hS
  have hco := jd_coder (l := l) C w d
  have M0 := M
  obtain ⟨hx, hb, hml, hr, hlk, hown, hnm, hW⟩ := M
  have hts := C.w hW (args := args)
  obtain ⟨hL, hO, hC, hV, hT, hZ, hF⟩ := w
  refine lv_aload_n hx hb dJ0_length_8abf5_0 rfl (lv_at hl 0 rfl) ?_
  refine vk_getf hx hb ((va_OF.moved hW.alike hV).kept hS.2.1) va_S.rf hown (hts _ jf_9) (fun _ h => h) dJ0_length_8abf5_1 ?_
  refine va_tlen hx hb ((va_T.moved hW.alike hT).kept hS.2.1) va_S.rf (v := nI L) rfl dJ0_length_8abf5_4 ?_
  refine lv_aload_n hx hb dJ0_length_8abf5_5 rfl (lv_at hl 0 rfl) ?_
  refine jd_V C M0 hco coJ0_coder_7d493 (by decide) jl_335 ji_coder_7d493 js_coder_7d493 hO mb_J0_coder_7d493 rfl hl.1 dJ0_length_8abf5_6 (by simp [Value.category]) ⟨Nat.le_refl _, Nat.le_refl _⟩ ⟨Nat.le_refl _, Nat.le_refl _⟩ hS rfl ?_
  refine lv_ishr hx hb dJ0_length_8abf5_9 ?_
  rw [show nI L >>> ((0 : Int32) &&& 31) = nI L from by
    rw [show ((0 : Int32) &&& 31) = nI 0 from rfl, pk_shrN hL (nI 0) 0 (by decide), Nat.pow_zero, Nat.div_one]]
  exact W.zret hx hb hr (by rfl) (fun u hu _ => ⟨rfl, hu⟩) (fun _ h => by cases h) dJ0_length_8abf5_10 hlk
theorem jd_check3 {i n : Nat} (hi : i < n) (hn : n < 2 ^ 31) {fv : Value} (hfv : fv = .null ∨ ∃ q, fv = .ref q) (d : Nat) : jdM l s0 (d + 1) yJ3_checkIndex_8e157 cJ3_checkIndex_8e157 3 (some .int) [.int (nI i), .int (nI n), fv] (some (.int (nI i))) := by
  refine jd_met (by decide) (by rcases hfv with rfl | ⟨q, rfl⟩ <;> simp [lg_sl, Value.category]) ?_
  intro p e s m args below meth c lr M hl hS
  obtain ⟨hx, hb, hml, hr, hlk, hown, hnm, hW⟩ := M
  have l0 : lr[0]? = some (.val (.int (nI i))) := lv_at hl 0 rfl
  have l1 : lr[1]? = some (.val (.int (nI n))) := lv_at hl 1 rfl
  refine lv_iload_n hx hb dJ3_checkIndex_8e157_0 rfl l0 ?_
  refine lv_if_lt hx hb dJ3_checkIndex_8e157_1 (tgt := 9) (by decide) (fun h => absurd h (nI_pos (by omega))) (fun _ => ?_)
  refine lv_iload_n hx hb dJ3_checkIndex_8e157_4 rfl l0 ?_
  refine lv_iload_n hx hb dJ3_checkIndex_8e157_5 rfl l1 ?_
  refine lv_icmp_lt hx hb dJ3_checkIndex_8e157_6 (tgt := 16) (by decide) (fun _ => ?_) (fun h => absurd (nI_lt hi hn) h)
  refine lv_iload_n hx hb dJ3_checkIndex_8e157_16 rfl l0 ?_
  exact W.zret hx hb hr (by rfl) (fun u hu _ => ⟨rfl, hu⟩) (fun _ h => by cases h) dJ3_checkIndex_8e157_17 hlk
theorem jd_check (C : xC s0 a0 D t) (w : jdW s0 a v L f) {i n : Nat} (hi : i < n) (hn : n < 2 ^ 31) (d : Nat) : jdM l s0 (d + 2) yJ0_checkIndex_df160 cJ0_checkIndex_df160 2 none [.int (nI i), .int (nI n)] none := by
  refine jd_met (by decide) (by simp [lg_sl, Value.category]) ?_
  intro p e s m args below meth c lr M hl hS
  have M0 := M
  obtain ⟨hx, hb, hml, hr, hlk, hown, hnm, hW⟩ := M
  have hts := C.w hW (args := args)
  obtain ⟨hL, hO, hC, hV, hT, hZ, hF⟩ := w
  have l0 : lr[0]? = some (.val (.int (nI i))) := lv_at hl 0 rfl
  have l1 : lr[1]? = some (.val (.int (nI n))) := lv_at hl 1 rfl
  obtain ⟨fv, hfv, hZf⟩ : ∃ fv : Value, (fv = .null ∨ ∃ q, fv = .ref q) ∧ va_Z "jdk/internal/util/Preconditions" "SIOOBE_FORMATTER" "Ljava/util/function/BiFunction;" fv (jdA s0) s0 s0.heap := by
    rcases hF with h | ⟨q, h⟩
    · exact ⟨_, Or.inl rfl, h⟩
    · exact ⟨_, Or.inr ⟨q, rfl⟩, h⟩
  refine lv_iload_n hx hb dJ0_checkIndex_df160_0 rfl l0 ?_
  refine lv_iload_n hx hb dJ0_checkIndex_df160_1 rfl l1 ?_
  refine va_gets hx hb ((va_Z.moved hW.alike hZf).kept hS.2.1) va_S.rf hown (hts _ jf_1053) (fun _ h => h) dJ0_checkIndex_df160_2 ?_
  refine jd_S C M0 (jd_check3 (l := l) (s0 := s0) hi hn hfv d) coJ3_checkIndex_8e157 (by decide) (xg_3 48 rfl rfl) slJ0_1059.2.1 slJ0_1059.2.2 rfl hl.1 dJ0_checkIndex_df160_5 (by decide) ⟨Nat.le_refl _, Nat.le_refl _⟩ ⟨Nat.le_refl _, Nat.le_refl _⟩ hS rfl ?_
  refine lv_pop hx hb dJ0_checkIndex_df160_8 rfl ?_
  exact W.vret hx hb hr (fun u hu _ => ⟨rfl, hu⟩) (fun _ h => by cases h) dJ0_checkIndex_df160_9 hlk
theorem jd_chars (C : xC s0 a0 D t) (w : jdW s0 a v L f) {i : Nat} (hi : i < L) (d : Nat) : jdM l s0 (d + 3) yJ1_charAt_3b067 cJ1_charAt_3b067 2 (some .char) [.ref v, .int (nI i)] (some (.int ((f i &&& 255).toUInt32 % 65536).toInt32)) := by
  refine jd_met (by decide) (by simp [lg_sl, Value.category]) ?_
  intro p e s m args below meth c lr M hl hS
  have M0 := M
  have w0 := w
  obtain ⟨hx, hb, hml, hr, hlk, hown, hnm, hW⟩ := M
  have hts := C.w hW (args := args)
  obtain ⟨hL, hO, hC, hV, hT, hZ, hF⟩ := w
  have l0 : lr[0]? = some (.val (.ref v)) := lv_at hl 0 rfl
  have l1 : lr[1]? = some (.val (.int (nI i))) := lv_at hl 1 rfl
  refine lv_iload_n hx hb dJ1_charAt_3b067_0 rfl l1 ?_
  refine lv_aload_n hx hb dJ1_charAt_3b067_1 rfl l0 ?_
  refine va_tlen hx hb ((va_T.moved hW.alike hT).kept hS.2.1) va_S.rf (v := nI L) rfl dJ1_charAt_3b067_2 ?_
  refine jd_S C M0 (jd_check (l := l) C w0 hi hL d) coJ0_checkIndex_df160 (by decide) (xg_3 43 rfl rfl) slJ1_9.2.1 slJ1_9.2.2 rfl hl.1 dJ1_charAt_3b067_3 (by decide) ⟨Nat.le_refl _, Nat.le_refl _⟩ ⟨Nat.le_refl _, Nat.le_refl _⟩ hS rfl ?_
  refine lv_aload_n hx hb dJ1_charAt_3b067_6 rfl l0 ?_
  refine lv_iload_n hx hb dJ1_charAt_3b067_7 rfl l1 ?_
  refine va_tb hx hb ((va_T.moved hW.alike hT).kept hS.2.1) va_S.rf (vp_in_nI hi hL) (v := .int (f i)) (by rw [nI_clamp (by omega)]) dJ1_charAt_3b067_8 ?_
  refine lv_sipush hx hb (v := 255) dJ1_charAt_3b067_9 (by decide) ?_
  refine lv_iand hx hb dJ1_charAt_3b067_12 ?_
  refine lv_i2c hx hb dJ1_charAt_3b067_13 rfl ?_
  exact W.zret hx hb hr (pk_nc _) (fun u hu _ => ⟨rfl, hu⟩) (fun _ h => by cases h) dJ1_charAt_3b067_14 hlk
theorem jd_char (C : xC s0 a0 D t) (w : jdW s0 a v L f) {i : Nat} (hi : i < L) (d : Nat) : jdM l s0 (d + 4) yJ0_charAt_5068e cJ0_charAt_5068e 2 (some .char) [.ref a, .int (nI i)] (some (.int ((f i &&& 255).toUInt32 % 65536).toInt32)) := by
  refine jd_met (by decide) (by simp [lg_sl, Value.category]) ?_
  intro p e s m args below meth c lr M hl hS
  have M0 := M
  have w0 := w
  obtain ⟨hx, hb, hml, hr, hlk, hown, hnm, hW⟩ := M
  have hts := C.w hW (args := args)
  obtain ⟨hL, hO, hC, hV, hT, hZ, hF⟩ := w
  have l0 : lr[0]? = some (.val (.ref a)) := lv_at hl 0 rfl
  have l1 : lr[1]? = some (.val (.int (nI i))) := lv_at hl 1 rfl
  refine lv_aload_n hx hb dJ0_charAt_5068e_0 rfl l0 ?_
  refine jd_V C M0 (jd_latin (l := l) C w0 (d + 2)) coJ0_isLatin1_aae02 (by decide) jl_492 ji_isLatin1_aae02 js_isLatin1_aae02 hO mb_J0_isLatin1_aae02 rfl hl.1 dJ0_charAt_5068e_1 (by decide) ⟨Nat.le_refl _, Nat.le_refl _⟩ ⟨Nat.le_refl _, Nat.le_refl _⟩ hS rfl ?_
  refine lv_if_eq hx hb dJ0_charAt_5068e_4 (tgt := 16) (by decide) (fun h => absurd h (by decide)) (fun _ => ?_)
  refine lv_aload_n hx hb dJ0_charAt_5068e_7 rfl l0 ?_
  refine vk_getf hx hb ((va_OF.moved hW.alike hV).kept hS.2.1) va_S.rf hown (hts _ jf_9) (fun _ h => h) dJ0_charAt_5068e_8 ?_
  refine lv_iload_n hx hb dJ0_charAt_5068e_11 rfl l1 ?_
  refine jd_S C M0 (jd_chars (l := l) C w0 hi d) coJ1_charAt_3b067 (by decide) (xg_3 40 rfl rfl) slJ0_495.2.1 slJ0_495.2.2 rfl hl.1 dJ0_charAt_5068e_12 (by decide) ⟨Nat.le_refl _, Nat.le_refl _⟩ ⟨Nat.le_refl _, Nat.le_refl _⟩ hS rfl ?_
  exact W.zret hx hb hr (pk_nc _) (fun u hu _ => ⟨rfl, hu⟩) (fun _ h => by cases h) dJ0_charAt_5068e_15 hlk
end JM
