/-! names met; forms that change places -/
def rNm (k w : Int32) : Int32 := if k = 1 then (if w < 16 then -1 else w - 16) else -1
theorem wW_wK (I : Nat → Nat → Int32) (n : Nat) (b c e : Int32) (W : Nat → Int32) (s i p k v : Int32) : wW (wK I s i p k v) n b c e W = wK (wW I n b c e W) s i p k v := by
  funext a q
  simp only [wW, wK]
  by_cases h : a = 28
  · subst h; simp
  · simp [h]
theorem wW_wL (I : Nat → Nat → Int32) (n : Nat) (b c e : Int32) (W : Nat → Int32) (f g r : Int32) : wW (wL I f g r) n b c e W = wL (wW I n b c e W) f g r := by
  funext a q
  simp only [wW, wL]
  by_cases h : a = 2
  · subst h; simp
  · simp [h]
theorem wK_wL (I : Nat → Nat → Int32) (s i p k v : Int32) (f g r : Int32) : wK (wL I f g r) s i p k v = wL (wK I s i p k v) f g r := by
  funext a q
  simp only [wK, wL]
  by_cases h : a = 2
  · subst h; simp
  · simp [h]
set_option maxHeartbeats 1000000 in
theorem k_nameMet {E : xCl} {ex : Bool} {I : Nat → Nat → Int32} {J : Nat → Nat → Int64} {P : Nat → Nat → Nat} {s i k w a : Int32} (d : Nat) : xEx E ex (d + 1) yX11_nameMet [.ref 347] (SH, wQ I s i k w a, J, P) (some (.int (rNm k w))) (SH, wQ I s i k w a, J, P) := by
  refine x_enter cqX11_nameMet [some (.ref 347)] rfl (by simp [lg_sl, Value.category]) ?_
  refine r_aload_n dX11_nameMet_0 rfl ?_
  refine r_getIv dX11_nameMet_1 flX11_211 sh_347 (by decide) rfl (wQ_8 _ _ _ _ _ _) ?_
  refine r_iconst (v := 1) dX11_nameMet_4 (by decide) ?_
  refine r_ic_ne 27 dX11_nameMet_5 (by decide) (fun c5 => ?_) (fun c5 => ?_)
  · refine r_iconst (v := (-1)) dX11_nameMet_27 (by decide) ?_
    exact r_iret dX11_nameMet_28 rfl rfl (by rw [rNm, if_neg c5]) rfl
  · refine r_aload_n dX11_nameMet_8 rfl ?_
    refine r_getIv dX11_nameMet_9 flX11_222 sh_347 (by decide) rfl (wQ_9 _ _ _ _ _ _) ?_
    refine r_bipush (v := 16) dX11_nameMet_12 (by decide) ?_
    refine r_ic_lt 27 dX11_nameMet_14 (by decide) (fun c14 => ?_) (fun c14 => ?_)
    · refine r_iconst (v := (-1)) dX11_nameMet_27 (by decide) ?_
      exact r_iret dX11_nameMet_28 rfl rfl (by rw [rNm, if_pos c5, if_pos c14]) rfl
    · refine r_aload_n dX11_nameMet_17 rfl ?_
      refine r_getIv dX11_nameMet_18 flX11_222 sh_347 (by decide) rfl (wQ_9 _ _ _ _ _ _) ?_
      refine r_bipush (v := 16) dX11_nameMet_21 (by decide) ?_
      refine r_isub dX11_nameMet_23 ?_
      refine r_goto 28 dX11_nameMet_24 (by decide) ?_
      exact r_iret dX11_nameMet_28 rfl rfl (by rw [rNm, if_pos c5, if_neg c14]) rfl
