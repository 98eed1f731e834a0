/-! feed -/
/-- the numbers with the tape (cell behind o) seen as T, n of it fed -/
def wA (o : Nat) (I : Nat → Nat → Int32) (n : Nat) (T : Nat → Int32) : Nat → Nat → Int32 := fun a k => if a = o ∧ k = 1 then nI n else if a = o + 1 ∧ k < 700 then T k else I a k
theorem wA_n (o : Nat) (I : Nat → Nat → Int32) (n : Nat) (T : Nat → Int32) : wA o I n T o 1 = nI n := by simp [wA]
theorem wA_t (o : Nat) (I : Nat → Nat → Int32) (n : Nat) (T : Nat → Int32) {k : Nat} (h : k < 700) : wA o I n T (o + 1) k = T k := by simp [wA, h]
theorem wA_xn (o : Nat) (I : Nat → Nat → Int32) (n m : Nat) (T : Nat → Int32) : xu (wA o I n T) o 1 (nI m) = wA o I m T := by
  funext a q
  simp only [xu, wA]
  by_cases h : a = o ∧ q = 1
  · simp [h]
  · simp [h]
theorem wA_xt (o : Nat) (I : Nat → Nat → Int32) (n : Nat) (T : Nat → Int32) {k : Nat} (h : k < 700) (v : Int32) : xu (wA o I n T) (o + 1) k v = wA o I n (up T k v) := by
  funext a q
  simp only [xu, wA, up]
  by_cases ha : a = o + 1
  · subst ha
    by_cases hq : q = k
    · subst hq; simp [h]
    · simp [hq]
  · simp [ha]
theorem wA_o (o : Nat) (I : Nat → Nat → Int32) (n : Nat) (T : Nat → Int32) {a k : Nat} (h : ¬ (a = o ∧ k = 1)) (h' : ¬ a = o + 1) : wA o I n T a k = I a k := by simp [wA, h, h']
theorem wA_id {o : Nat} {I : Nat → Nat → Int32} {n : Nat} (h : I o 1 = nI n) : wA o I n (I (o + 1)) = I := by
  funext a k
  simp only [wA]
  split
  · rename_i q; rw [q.1, q.2, h]
  · split
    · rename_i q; rw [q.1]
    · rfl
/-- the byte j (0 is the highest) of a number, as the class keeps it -/
def cBy (x : Int32) (j : Nat) : Int32 := vp_nar .byte ((x >>> ((24 - 8 * nI j) &&& 31)).toInt8.toInt32)
def cTp (T : Nat → Int32) (n : Nat) (x : Int32) : Nat → Nat → Int32
  | 0 => T
  | j + 1 => up (cTp T n x j) (n + j) (cBy x j)
theorem sf_p : ∀ j, j < 4 → ¬ (24 - 8 * nI j < 0) := by decide +kernel
theorem sf_s : ∀ j, j < 4 → 24 - 8 * nI j + (-8) = 24 - 8 * nI (j + 1) := by decide +kernel
theorem lt700 {q : Nat} (h : q < 700) : ¬ (700 : Int32) ≤ nI q := nI_ge (a := q) (b := 700) h (by decide)
set_option maxHeartbeats 1000000 in
theorem l_putNumber {E : xCl} {ex : Bool} {I : Nat → Nat → Int32} {T : Nat → Int32} {J : Nat → Nat → Int64} {P : Nat → Nat → Nat} (hP : Pok P) {n : Nat} (hn : n + 4 ≤ 700) (x : Int32) (d : Nat) : ∀ j, j ≤ 4 → xR (xEx E ex (d + 0)) ex none yX10_putNumber cX10_putNumber none 3 [some (.ref 0), some (.int x), some (.int (24 - 8 * nI j))] [] (SH, wA 0 I (n + j) (cTp T n x j), J, P) (xEq none (SH, wA 0 I (n + 4) (cTp T n x 4), J, P)) := by
  refine r_for (fun j => xR (xEx E ex (d + 0)) ex none yX10_putNumber cX10_putNumber none 3 [some (.ref 0), some (.int x), some (.int (24 - 8 * nI j))] [] (SH, wA 0 I (n + j) (cTp T n x j), J, P) (xEq none (SH, wA 0 I (n + 4) (cTp T n x 4), J, P))) _ ?_ ?_
  · intro j hj ih
    refine r_iload_n dX10_putNumber_3 rfl ?_
    refine r_if_lt 46 dX10_putNumber_4 (by decide) (fun c4 => ?_) (fun c4 => ?_)
    · exact absurd c4 (sf_p j hj)
    · refine r_aload_n dX10_putNumber_7 rfl ?_
      refine r_getIv dX10_putNumber_8 flX10_87 sh_0 (by decide) rfl (wA_n 0 _ _ _) ?_
      refine r_sipush (v := 700) dX10_putNumber_11 (by decide) ?_
      refine r_ic_ge 46 dX10_putNumber_14 (by decide) (fun c14 => ?_) (fun c14 => ?_)
      · exact absurd c14 (lt700 (by omega))
      · refine r_aload_n dX10_putNumber_17 rfl ?_
        refine r_getR dX10_putNumber_18 flX10_9 sh_0 (by decide) rfl (pf_0_0 hP) ?_
        refine r_aload_n dX10_putNumber_21 rfl ?_
        refine r_getIv dX10_putNumber_22 flX10_87 sh_0 (by decide) rfl (wA_n 0 _ _ _) ?_
        refine r_iload_n dX10_putNumber_25 rfl ?_
        refine r_iload_n dX10_putNumber_26 rfl ?_
        refine r_ishr dX10_putNumber_27 ?_
        refine r_i2b dX10_putNumber_28 ?_
        refine r_basv dX10_putNumber_29 sh_1 (vp_in_nI (n := n + j) (by omega) (by decide)) ((congrArg (fun z => xu _ 1 z _) (nI_clamp (n := n + j) (by omega))).trans (wA_xt 0 _ _ _ (by omega) _)) ?_
        refine r_aload_n dX10_putNumber_30 rfl ?_
        refine r_dup dX10_putNumber_31 rfl ?_
        refine r_getIv dX10_putNumber_32 flX10_87 sh_0 (by decide) rfl (wA_n 0 _ _ _) ?_
        refine r_iconst (v := 1) dX10_putNumber_35 (by decide) ?_
        refine r_iadd dX10_putNumber_36 ?_
        refine r_putIv dX10_putNumber_37 flX10_87 ⟨_, _, _, rfl, Or.inl rfl⟩ sh_0 (by decide) rfl rfl rfl ((congrArg (xu _ 0 1) (nI_1 _)).trans (wA_xn 0 _ _ _ _)) ?_
        refine r_iinc2 (v := (-8)) dX10_putNumber_40 (by decide) rfl ?_
        refine r_goto 3 dX10_putNumber_43 (by decide) ?_
        rw [sf_s j hj]; exact ih
  · refine r_iload_n dX10_putNumber_3 rfl ?_
    refine r_if_lt 46 dX10_putNumber_4 (by decide) (fun c4 => ?_) (fun c4 => ?_)
    · exact r_vret dX10_putNumber_46 rfl rfl rfl
    · exact absurd (by decide) c4
set_option maxHeartbeats 1000000 in
theorem k_putNumber {E : xCl} {ex : Bool} {I : Nat → Nat → Int32} {T : Nat → Int32} {J : Nat → Nat → Int64} {P : Nat → Nat → Nat} (hP : Pok P) {n : Nat} (hn : n + 4 ≤ 700) (x : Int32) (d : Nat) : xEx E ex (d + 1) yX10_putNumber [.ref 0, .int x] (SH, wA 0 I n T, J, P) none (SH, wA 0 I (n + 4) (cTp T n x 4), J, P) := by
  refine x_enter cqX10_putNumber [some (.ref 0), some (.int x), none] rfl (by simp [lg_sl, Value.category]) ?_
  refine r_bipush (v := 24) dX10_putNumber_0 (by decide) ?_
  refine r_istore_n2 dX10_putNumber_2 rfl ?_
  exact l_putNumber hP hn x d 0 (Nat.zero_le _)
/-- the tape with five numbers more -/
def cTf (T : Nat → Int32) (n : Nat) (a b c e f : Int32) : Nat → Int32 := cTp (cTp (cTp (cTp (cTp T n a 4) (n + 4) b 4) (n + 8) c 4) (n + 12) e 4) (n + 16) f 4
theorem n20 {n : Nat} (h : n + 20 ≤ 700) : nI n + 20 ≤ 700 := by rw [show nI n + 20 = nI (n + 20) from nI_add n 20]; exact nI_le (b := 700) h (by decide)
theorem n20f {n : Nat} (h : ¬ n + 20 ≤ 700) (h' : n ≤ 700) : ¬ nI n + 20 ≤ 700 := by rw [show nI n + 20 = nI (n + 20) from nI_add n 20]; exact nI_ge (a := 700) (by omega) (by omega)
set_option maxHeartbeats 1000000 in
theorem k_feed_t {E : xCl} {ex : Bool} {I : Nat → Nat → Int32} {T : Nat → Int32} {J : Nat → Nat → Int64} {P : Nat → Nat → Nat} (hP : Pok P) {n : Nat} (hn : n + 20 ≤ 700) (a b c e f : Int32) (d : Nat) : xEx E ex (d + 2) yX10_feed [.ref 0, .int a, .int b, .int c, .int e, .int f] (SH, wA 0 I n T, J, P) (some (.int (nI (n + 20)))) (SH, wA 0 I (n + 20) (cTf T n a b c e f), J, P) := by
  refine x_enter cqX10_feed [some (.ref 0), some (.int a), some (.int b), some (.int c), some (.int e), some (.int f)] rfl (by simp [lg_sl, Value.category]) ?_
  refine r_aload_n dX10_feed_0 rfl ?_
  refine r_getIv dX10_feed_1 flX10_87 sh_0 (by decide) rfl (wA_n 0 _ _ _) ?_
  refine r_bipush (v := 20) dX10_feed_4 (by decide) ?_
  refine r_iadd dX10_feed_6 ?_
  refine r_sipush (v := 700) dX10_feed_7 (by decide) ?_
  refine r_ic_le 15 dX10_feed_10 (by decide) (fun c10 => ?_) (fun c10 => ?_)
  · refine r_aload_n dX10_feed_15 rfl ?_
    refine r_iload_n dX10_feed_16 rfl ?_
    refine r_cV1v dX10_feed_17 vlX10_90 sh_0 (Nat.le_of_ble_eq_true rfl) (k_putNumber hP (by omega) a d) ?_
    refine r_aload_n dX10_feed_20 rfl ?_
    refine r_iload_n dX10_feed_21 rfl ?_
    refine r_cV1v dX10_feed_22 vlX10_90 sh_0 (Nat.le_of_ble_eq_true rfl) (k_putNumber hP (by omega) b d) ?_
    refine r_aload_n dX10_feed_25 rfl ?_
    refine r_iload_n dX10_feed_26 rfl ?_
    refine r_cV1v dX10_feed_27 vlX10_90 sh_0 (Nat.le_of_ble_eq_true rfl) (k_putNumber hP (by omega) c d) ?_
    refine r_aload_n dX10_feed_30 rfl ?_
    refine r_iload dX10_feed_31 rfl ?_
    refine r_cV1v dX10_feed_33 vlX10_90 sh_0 (Nat.le_of_ble_eq_true rfl) (k_putNumber hP (by omega) e d) ?_
    refine r_aload_n dX10_feed_36 rfl ?_
    refine r_iload dX10_feed_37 rfl ?_
    refine r_cV1v dX10_feed_39 vlX10_90 sh_0 (Nat.le_of_ble_eq_true rfl) (k_putNumber hP (by omega) f d) ?_
    refine r_aload_n dX10_feed_42 rfl ?_
    refine r_getIv dX10_feed_43 flX10_87 sh_0 (by decide) rfl (wA_n 0 _ _ _) ?_
    exact r_iret dX10_feed_46 rfl rfl rfl rfl
  · exact absurd (n20 hn) c10
set_option maxHeartbeats 1000000 in
theorem k_feed_f {E : xCl} {ex : Bool} {I : Nat → Nat → Int32} {T : Nat → Int32} {J : Nat → Nat → Int64} {P : Nat → Nat → Nat} {n : Nat} (hn : ¬ n + 20 ≤ 700) (hn2 : n ≤ 700) (a b c e f : Int32) (d : Nat) : xEx E ex (d + 1) yX10_feed [.ref 0, .int a, .int b, .int c, .int e, .int f] (SH, wA 0 I n T, J, P) (some (.int (-1))) (SH, wA 0 I n T, J, P) := by
  refine x_enter cqX10_feed [some (.ref 0), some (.int a), some (.int b), some (.int c), some (.int e), some (.int f)] rfl (by simp [lg_sl, Value.category]) ?_
  refine r_aload_n dX10_feed_0 rfl ?_
  refine r_getIv dX10_feed_1 flX10_87 sh_0 (by decide) rfl (wA_n 0 _ _ _) ?_
  refine r_bipush (v := 20) dX10_feed_4 (by decide) ?_
  refine r_iadd dX10_feed_6 ?_
  refine r_sipush (v := 700) dX10_feed_7 (by decide) ?_
  refine r_ic_le 15 dX10_feed_10 (by decide) (fun c10 => ?_) (fun c10 => ?_)
  · exact absurd c10 (n20f hn hn2)
  · refine r_iconst (v := (-1)) dX10_feed_13 (by decide) ?_
    exact r_iret dX10_feed_14 rfl rfl rfl rfl
/-- the byte k of five numbers, as the reference keeps it -/
def rBy (a b c e f : Int32) (k : Nat) : Int32 := ((if nI k < 4 then a else if nI k < 8 then b else if nI k < 12 then c else if nI k < 16 then e else f) >>> ((24 - 8 * (nI k - nI k / 4 * 4)) &&& 31)) &&& 255
def rTf (T : Nat → Int32) (n : Nat) (a b c e f : Int32) : Nat → Nat → Int32
  | 0 => T
  | j + 1 => up (rTf T n a b c e f j) (n + j) (rBy a b c e f j)
set_option maxHeartbeats 1000000 in
theorem l_rfeed {E : xCl} {ex : Bool} {I : Nat → Nat → Int32} {T : Nat → Int32} {J : Nat → Nat → Int64} {P : Nat → Nat → Nat} (hP : Pok P) {n : Nat} (hn : n + 20 ≤ 700) (a b c e f : Int32) (d : Nat) : ∀ j, j ≤ 20 → ∀ (w : Option Value), xR (xEx E ex (d + 0)) ex none yX11_feed cX11_feed (some .int) 23 [some (.ref 347), some (.int a), some (.int b), some (.int c), some (.int e), some (.int f), some (.int (nI j)), w] [] (SH, wA 347 I n (rTf T n a b c e f j), J, P) (xEq (some (.int (nI (n + 20)))) (SH, wA 347 I (n + 20) (rTf T n a b c e f 20), J, P)) := by
  refine r_for (fun j => ∀ (w : Option Value), xR (xEx E ex (d + 0)) ex none yX11_feed cX11_feed (some .int) 23 [some (.ref 347), some (.int a), some (.int b), some (.int c), some (.int e), some (.int f), some (.int (nI j)), w] [] (SH, wA 347 I n (rTf T n a b c e f j), J, P) (xEq (some (.int (nI (n + 20)))) (SH, wA 347 I (n + 20) (rTf T n a b c e f 20), J, P))) _ ?_ ?_
  · intro j hj ih w
    refine r_iload dX11_feed_23 rfl ?_
    refine r_bipush (v := 20) dX11_feed_25 (by decide) ?_
    refine r_ic_ge 113 dX11_feed_27 (by decide) (fun c27 => ?_) (fun c27 => ?_)
    · exact absurd c27 (nI_ge (a := j) (b := 20) hj (by decide))
    · refine r_iload dX11_feed_30 rfl ?_
      refine r_iconst (v := 4) dX11_feed_32 (by decide) ?_
      refine r_ic_ge 40 dX11_feed_33 (by decide) (fun c33 => ?_) (fun c33 => ?_)
      · refine r_iload dX11_feed_40 rfl ?_
        refine r_bipush (v := 8) dX11_feed_42 (by decide) ?_
        refine r_ic_ge 51 dX11_feed_44 (by decide) (fun c44 => ?_) (fun c44 => ?_)
        · refine r_iload dX11_feed_51 rfl ?_
          refine r_bipush (v := 12) dX11_feed_53 (by decide) ?_
          refine r_ic_ge 62 dX11_feed_55 (by decide) (fun c55 => ?_) (fun c55 => ?_)
          · refine r_iload dX11_feed_62 rfl ?_
            refine r_bipush (v := 16) dX11_feed_64 (by decide) ?_
            refine r_ic_ge 74 dX11_feed_66 (by decide) (fun c66 => ?_) (fun c66 => ?_)
            · refine r_iload dX11_feed_74 rfl ?_
              refine r_istore7 dX11_feed_76 rfl ?_
              refine r_aload_n dX11_feed_78 rfl ?_
              refine r_getR dX11_feed_79 flX11_7 sh_347 (by decide) rfl (pf_347_0 hP) ?_
              refine r_aload_n dX11_feed_82 rfl ?_
              refine r_getIv dX11_feed_83 flX11_196 sh_347 (by decide) rfl (wA_n 347 _ _ _) ?_
              refine r_iload dX11_feed_86 rfl ?_
              refine r_iadd dX11_feed_88 ?_
              refine r_iload dX11_feed_89 rfl ?_
              refine r_bipush (v := 24) dX11_feed_91 (by decide) ?_
              refine r_bipush (v := 8) dX11_feed_93 (by decide) ?_
              refine r_iload dX11_feed_95 rfl ?_
              refine r_iconst (v := 4) dX11_feed_97 (by decide) ?_
              refine r_irem dX11_feed_98 (by decide) ?_
              refine r_imul dX11_feed_99 ?_
              refine r_isub dX11_feed_100 ?_
              refine r_ishr dX11_feed_101 ?_
              refine r_sipush (v := 255) dX11_feed_102 (by decide) ?_
              refine r_iand dX11_feed_105 ?_
              refine r_iasv dX11_feed_106 sh_348 (by rw [nI_add]; exact vp_in_nI (n := n + j) (by omega) (by decide)) ((congrArg (fun z => xu _ 348 z _) ((congrArg Int32.toNatClampNeg (nI_add n j)).trans (nI_clamp (n := n + j) (by omega)))).trans (wA_xt 347 _ _ _ (by omega) _)) ?_
              refine r_iinc6 (v := 1) dX11_feed_107 (by decide) rfl ?_
              refine r_goto 23 dX11_feed_110 (by decide) ?_
              rw [nI_1]; rw [rTf, rBy, if_neg (fun z => absurd c33 (Int32.not_le.mpr z)), if_neg (fun z => absurd c44 (Int32.not_le.mpr z)), if_neg (fun z => absurd c55 (Int32.not_le.mpr z)), if_neg (fun z => absurd c66 (Int32.not_le.mpr z))] at ih; exact ih _
            · refine r_iload dX11_feed_69 rfl ?_
              refine r_goto 76 dX11_feed_71 (by decide) ?_
              refine r_istore7 dX11_feed_76 rfl ?_
              refine r_aload_n dX11_feed_78 rfl ?_
              refine r_getR dX11_feed_79 flX11_7 sh_347 (by decide) rfl (pf_347_0 hP) ?_
              refine r_aload_n dX11_feed_82 rfl ?_
              refine r_getIv dX11_feed_83 flX11_196 sh_347 (by decide) rfl (wA_n 347 _ _ _) ?_
              refine r_iload dX11_feed_86 rfl ?_
              refine r_iadd dX11_feed_88 ?_
              refine r_iload dX11_feed_89 rfl ?_
              refine r_bipush (v := 24) dX11_feed_91 (by decide) ?_
              refine r_bipush (v := 8) dX11_feed_93 (by decide) ?_
              refine r_iload dX11_feed_95 rfl ?_
              refine r_iconst (v := 4) dX11_feed_97 (by decide) ?_
              refine r_irem dX11_feed_98 (by decide) ?_
              refine r_imul dX11_feed_99 ?_
              refine r_isub dX11_feed_100 ?_
              refine r_ishr dX11_feed_101 ?_
              refine r_sipush (v := 255) dX11_feed_102 (by decide) ?_
              refine r_iand dX11_feed_105 ?_
              refine r_iasv dX11_feed_106 sh_348 (by rw [nI_add]; exact vp_in_nI (n := n + j) (by omega) (by decide)) ((congrArg (fun z => xu _ 348 z _) ((congrArg Int32.toNatClampNeg (nI_add n j)).trans (nI_clamp (n := n + j) (by omega)))).trans (wA_xt 347 _ _ _ (by omega) _)) ?_
              refine r_iinc6 (v := 1) dX11_feed_107 (by decide) rfl ?_
              refine r_goto 23 dX11_feed_110 (by decide) ?_
              rw [nI_1]; rw [rTf, rBy, if_neg (fun z => absurd c33 (Int32.not_le.mpr z)), if_neg (fun z => absurd c44 (Int32.not_le.mpr z)), if_neg (fun z => absurd c55 (Int32.not_le.mpr z)), if_pos (Int32.not_le.mp c66)] at ih; exact ih _
          · refine r_iload_n dX11_feed_58 rfl ?_
            refine r_goto 76 dX11_feed_59 (by decide) ?_
            refine r_istore7 dX11_feed_76 rfl ?_
            refine r_aload_n dX11_feed_78 rfl ?_
            refine r_getR dX11_feed_79 flX11_7 sh_347 (by decide) rfl (pf_347_0 hP) ?_
            refine r_aload_n dX11_feed_82 rfl ?_
            refine r_getIv dX11_feed_83 flX11_196 sh_347 (by decide) rfl (wA_n 347 _ _ _) ?_
            refine r_iload dX11_feed_86 rfl ?_
            refine r_iadd dX11_feed_88 ?_
            refine r_iload dX11_feed_89 rfl ?_
            refine r_bipush (v := 24) dX11_feed_91 (by decide) ?_
            refine r_bipush (v := 8) dX11_feed_93 (by decide) ?_
            refine r_iload dX11_feed_95 rfl ?_
            refine r_iconst (v := 4) dX11_feed_97 (by decide) ?_
            refine r_irem dX11_feed_98 (by decide) ?_
            refine r_imul dX11_feed_99 ?_
            refine r_isub dX11_feed_100 ?_
            refine r_ishr dX11_feed_101 ?_
            refine r_sipush (v := 255) dX11_feed_102 (by decide) ?_
            refine r_iand dX11_feed_105 ?_
            refine r_iasv dX11_feed_106 sh_348 (by rw [nI_add]; exact vp_in_nI (n := n + j) (by omega) (by decide)) ((congrArg (fun z => xu _ 348 z _) ((congrArg Int32.toNatClampNeg (nI_add n j)).trans (nI_clamp (n := n + j) (by omega)))).trans (wA_xt 347 _ _ _ (by omega) _)) ?_
            refine r_iinc6 (v := 1) dX11_feed_107 (by decide) rfl ?_
            refine r_goto 23 dX11_feed_110 (by decide) ?_
            rw [nI_1]; rw [rTf, rBy, if_neg (fun z => absurd c33 (Int32.not_le.mpr z)), if_neg (fun z => absurd c44 (Int32.not_le.mpr z)), if_pos (Int32.not_le.mp c55)] at ih; exact ih _
        · refine r_iload_n dX11_feed_47 rfl ?_
          refine r_goto 76 dX11_feed_48 (by decide) ?_
          refine r_istore7 dX11_feed_76 rfl ?_
          refine r_aload_n dX11_feed_78 rfl ?_
          refine r_getR dX11_feed_79 flX11_7 sh_347 (by decide) rfl (pf_347_0 hP) ?_
          refine r_aload_n dX11_feed_82 rfl ?_
          refine r_getIv dX11_feed_83 flX11_196 sh_347 (by decide) rfl (wA_n 347 _ _ _) ?_
          refine r_iload dX11_feed_86 rfl ?_
          refine r_iadd dX11_feed_88 ?_
          refine r_iload dX11_feed_89 rfl ?_
          refine r_bipush (v := 24) dX11_feed_91 (by decide) ?_
          refine r_bipush (v := 8) dX11_feed_93 (by decide) ?_
          refine r_iload dX11_feed_95 rfl ?_
          refine r_iconst (v := 4) dX11_feed_97 (by decide) ?_
          refine r_irem dX11_feed_98 (by decide) ?_
          refine r_imul dX11_feed_99 ?_
          refine r_isub dX11_feed_100 ?_
          refine r_ishr dX11_feed_101 ?_
          refine r_sipush (v := 255) dX11_feed_102 (by decide) ?_
          refine r_iand dX11_feed_105 ?_
          refine r_iasv dX11_feed_106 sh_348 (by rw [nI_add]; exact vp_in_nI (n := n + j) (by omega) (by decide)) ((congrArg (fun z => xu _ 348 z _) ((congrArg Int32.toNatClampNeg (nI_add n j)).trans (nI_clamp (n := n + j) (by omega)))).trans (wA_xt 347 _ _ _ (by omega) _)) ?_
          refine r_iinc6 (v := 1) dX11_feed_107 (by decide) rfl ?_
          refine r_goto 23 dX11_feed_110 (by decide) ?_
          rw [nI_1]; rw [rTf, rBy, if_neg (fun z => absurd c33 (Int32.not_le.mpr z)), if_pos (Int32.not_le.mp c44)] at ih; exact ih _
      · refine r_iload_n dX11_feed_36 rfl ?_
        refine r_goto 76 dX11_feed_37 (by decide) ?_
        refine r_istore7 dX11_feed_76 rfl ?_
        refine r_aload_n dX11_feed_78 rfl ?_
        refine r_getR dX11_feed_79 flX11_7 sh_347 (by decide) rfl (pf_347_0 hP) ?_
        refine r_aload_n dX11_feed_82 rfl ?_
        refine r_getIv dX11_feed_83 flX11_196 sh_347 (by decide) rfl (wA_n 347 _ _ _) ?_
        refine r_iload dX11_feed_86 rfl ?_
        refine r_iadd dX11_feed_88 ?_
        refine r_iload dX11_feed_89 rfl ?_
        refine r_bipush (v := 24) dX11_feed_91 (by decide) ?_
        refine r_bipush (v := 8) dX11_feed_93 (by decide) ?_
        refine r_iload dX11_feed_95 rfl ?_
        refine r_iconst (v := 4) dX11_feed_97 (by decide) ?_
        refine r_irem dX11_feed_98 (by decide) ?_
        refine r_imul dX11_feed_99 ?_
        refine r_isub dX11_feed_100 ?_
        refine r_ishr dX11_feed_101 ?_
        refine r_sipush (v := 255) dX11_feed_102 (by decide) ?_
        refine r_iand dX11_feed_105 ?_
        refine r_iasv dX11_feed_106 sh_348 (by rw [nI_add]; exact vp_in_nI (n := n + j) (by omega) (by decide)) ((congrArg (fun z => xu _ 348 z _) ((congrArg Int32.toNatClampNeg (nI_add n j)).trans (nI_clamp (n := n + j) (by omega)))).trans (wA_xt 347 _ _ _ (by omega) _)) ?_
        refine r_iinc6 (v := 1) dX11_feed_107 (by decide) rfl ?_
        refine r_goto 23 dX11_feed_110 (by decide) ?_
        rw [nI_1]; rw [rTf, rBy, if_pos (Int32.not_le.mp c33)] at ih; exact ih _
  · intro w
    refine r_iload dX11_feed_23 rfl ?_
    refine r_bipush (v := 20) dX11_feed_25 (by decide) ?_
    refine r_ic_ge 113 dX11_feed_27 (by decide) (fun c27 => ?_) (fun c27 => ?_)
    · refine r_aload_n dX11_feed_113 rfl ?_
      refine r_dup dX11_feed_114 rfl ?_
      refine r_getIv dX11_feed_115 flX11_196 sh_347 (by decide) rfl (wA_n 347 _ _ _) ?_
      refine r_bipush (v := 20) dX11_feed_118 (by decide) ?_
      refine r_iadd dX11_feed_120 ?_
      refine r_putIv dX11_feed_121 flX11_196 ⟨_, _, _, rfl, Or.inl rfl⟩ sh_347 (by decide) rfl rfl rfl ((congrArg (xu _ 347 1) (show nI n + 20 = nI (n + 20) from nI_add n 20)).trans (wA_xn 347 _ _ _ _)) ?_
      refine r_aload_n dX11_feed_124 rfl ?_
      refine r_getIv dX11_feed_125 flX11_196 sh_347 (by decide) rfl (wA_n 347 _ _ _) ?_
      exact r_iret dX11_feed_128 rfl rfl rfl rfl
    · exact absurd (by decide) c27
set_option maxHeartbeats 1000000 in
theorem k_rfeed_t {E : xCl} {ex : Bool} {I : Nat → Nat → Int32} {T : Nat → Int32} {J : Nat → Nat → Int64} {P : Nat → Nat → Nat} (hP : Pok P) {n : Nat} (hn : n + 20 ≤ 700) (a b c e f : Int32) {I0 : Nat → Nat → Int32} (hT : xu (wA 347 I0 n T) 347 2 0 = wA 347 I n T) (d : Nat) : xEx E ex (d + 1) yX11_feed [.ref 347, .int a, .int b, .int c, .int e, .int f] (SH, wA 347 I0 n T, J, P) (some (.int (nI (n + 20)))) (SH, wA 347 I (n + 20) (rTf T n a b c e f 20), J, P) := by
  refine x_enter cqX11_feed [some (.ref 347), some (.int a), some (.int b), some (.int c), some (.int e), some (.int f), none, none] rfl (by simp [lg_sl, Value.category]) ?_
  refine r_aload_n dX11_feed_0 rfl ?_
  refine r_iconst (v := 0) dX11_feed_1 (by decide) ?_
  refine r_putIv dX11_feed_2 flX11_193 ⟨_, _, _, rfl, Or.inl rfl⟩ sh_347 (by decide) rfl rfl rfl hT ?_
  refine r_aload_n dX11_feed_5 rfl ?_
  refine r_getIv dX11_feed_6 flX11_196 sh_347 (by decide) rfl (wA_n 347 _ _ _) ?_
  refine r_bipush (v := 20) dX11_feed_9 (by decide) ?_
  refine r_iadd dX11_feed_11 ?_
  refine r_sipush (v := 700) dX11_feed_12 (by decide) ?_
  refine r_ic_le 20 dX11_feed_15 (by decide) (fun c15 => ?_) (fun c15 => ?_)
  · refine r_iconst (v := 0) dX11_feed_20 (by decide) ?_
    refine r_istore6 dX11_feed_21 rfl ?_
    exact l_rfeed hP hn a b c e f d 0 (Nat.zero_le _) _
  · exact absurd (n20 hn) c15
set_option maxHeartbeats 1000000 in
theorem k_rfeed_f {E : xCl} {ex : Bool} {I : Nat → Nat → Int32} {T : Nat → Int32} {J : Nat → Nat → Int64} {P : Nat → Nat → Nat} {n : Nat} (hn : ¬ n + 20 ≤ 700) (hn2 : n ≤ 700) (a b c e f : Int32) {I0 : Nat → Nat → Int32} (hT : xu (wA 347 I0 n T) 347 2 0 = wA 347 I n T) (d : Nat) : xEx E ex (d + 1) yX11_feed [.ref 347, .int a, .int b, .int c, .int e, .int f] (SH, wA 347 I0 n T, J, P) (some (.int (-1))) (SH, wA 347 I n T, J, P) := by
  refine x_enter cqX11_feed [some (.ref 347), some (.int a), some (.int b), some (.int c), some (.int e), some (.int f), none, none] rfl (by simp [lg_sl, Value.category]) ?_
  refine r_aload_n dX11_feed_0 rfl ?_
  refine r_iconst (v := 0) dX11_feed_1 (by decide) ?_
  refine r_putIv dX11_feed_2 flX11_193 ⟨_, _, _, rfl, Or.inl rfl⟩ sh_347 (by decide) rfl rfl rfl hT ?_
  refine r_aload_n dX11_feed_5 rfl ?_
  refine r_getIv dX11_feed_6 flX11_196 sh_347 (by decide) rfl (wA_n 347 _ _ _) ?_
  refine r_bipush (v := 20) dX11_feed_9 (by decide) ?_
  refine r_iadd dX11_feed_11 ?_
  refine r_sipush (v := 700) dX11_feed_12 (by decide) ?_
  refine r_ic_le 20 dX11_feed_15 (by decide) (fun c15 => ?_) (fun c15 => ?_)
  · exact absurd c15 (n20f hn hn2)
  · refine r_iconst (v := (-1)) dX11_feed_18 (by decide) ?_
    exact r_iret dX11_feed_19 rfl rfl rfl rfl
theorem nar_255 (z : Int32) : (vp_nar .byte (z.toInt8.toInt32)) &&& 255 = z &&& 255 := by
  rw [show vp_nar .byte (z.toInt8.toInt32) = z.toInt8.toInt32.toInt8.toInt32 from rfl, Int8.toInt8_toInt32]
  apply Int32.toBitVec_inj.mp
  rw [Int32.toBitVec_and, Int32.toBitVec_and]
  apply BitVec.eq_of_getLsbD_eq
  intro i hi
  rw [BitVec.getLsbD_and, BitVec.getLsbD_and]
  by_cases h8 : i < 8
  · congr 1
    rw [show z.toInt8.toInt32.toBitVec = (z.toBitVec.signExtend 8).signExtend 32 from rfl, BitVec.getLsbD_signExtend, BitVec.getLsbD_signExtend]
    simp [h8, hi]
  · have h255 : (Int32.toBitVec 255).getLsbD i = false := by
      have : ∀ k, k < 32 → ¬ k < 8 → (Int32.toBitVec 255).getLsbD k = false := by decide +kernel
      exact this i hi h8
    rw [h255, Bool.and_false, Bool.and_false]
