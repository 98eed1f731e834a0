/-! what holds between both when both are made -/
def rRowB : Nat → List (List Nat) → Bool
  | m, [] => m == 117
  | m, w :: ws => (List.range w.length).all (fun i => rWL.getD (m + i) 0 == w.getD i 0 && decide (w.getD i 0 ≠ 32) && decide (w.getD i 0 < 128)) && (rWL.getD (m + w.length) 0 == 32 && (decide (m + w.length < 117) && rRowB (m + w.length + 1) ws))
theorem rRowB_ok {f : Nat → Int32} (hf : ∀ i, i < 117 → f i = nI (rWL.getD i 0)) : ∀ (ws : List (List Nat)) (m : Nat), rRowB m ws = true → rRow f m ws
  | [], m, h => by
    have h : m = 117 := by simpa [rRowB] using h
    exact h
  | w :: ws, m, h => by
    simp only [rRowB, Bool.and_eq_true, List.all_eq_true, List.mem_range, beq_iff_eq, decide_eq_true_eq] at h
    obtain ⟨h1, h2, h3, h4⟩ := h
    refine ⟨fun i hi => ?_, ?_, h3, rRowB_ok hf ws _ h4⟩
    · obtain ⟨⟨g1, g2⟩, g3⟩ := h1 i hi
      have e : w.getD i 0 = w[i] := by rw [List.getD_eq_getElem?_getD, List.getElem?_eq_getElem hi]; rfl
      rw [e] at g1 g2 g3
      refine ⟨by rw [hf _ (by omega), g1], fun z => g2 ((nI_eq (by omega) (by omega)).mp (show nI w[i] = nI 32 from z))⟩
    · rw [hf _ h3, h2]; rfl
theorem rRow_00 : rRowB 0 rWords = true := by decide +kernel
theorem bt_00 {g : Nat → Int32} (h : ∀ j, g j = 0) : ∀ n, n ≤ 12 → bt g n = 0 := by
  intro n hn
  have key : ∀ n, bt g n = bt (fun _ => 0) n := by
    have : g = fun _ => 0 := funext h
    rw [this]; exact fun _ => rfl
  rw [key]
  have : ∀ n, n ≤ 12 → bt (fun _ => 0) n = 0 := by decide +kernel
  exact this n hn
theorem vR_00 {X : Nat → Nat → Int32} (h : ∀ a k, 376 ≤ a → a ≤ 390 → X a k = 0) (f k : Nat) : vR X 0 f k = 0 := by
  unfold vR
  have z : ∀ a k, 376 ≤ a ∧ a ≤ 390 → X a k = 0 := fun a k w => h a k w.1 w.2
  have it : ∀ (c : Prop) (x y : Int32) (hd : Decidable c), x = 0 → y = 0 → @ite _ c hd x y = 0 := fun c x y hd hx hy => by
    by_cases e : c
    · rw [if_pos e]; exact hx
    · rw [if_neg e]; exact hy
  exact it _ _ _ _ (z 376 _ (by omega)) (it _ _ _ _ (z 377 _ (by omega)) (it _ _ _ _ (z 379 _ (by omega)) (it _ _ _ _ (z 380 _ (by omega)) (it _ _ _ _ (z 383 _ (by omega)) (it _ _ _ _ (z 384 _ (by omega)) (it _ _ _ _ (z 382 _ (by omega)) (it _ _ _ _ (z 381 _ (by omega)) (it _ _ _ _ (z 385 _ (by omega)) (it _ _ _ _ (z 386 _ (by omega)) (it _ _ _ _ (z 388 _ (by omega)) (it _ _ _ _ (bt_00 (fun j => z 387 _ (by omega)) 12 (Nat.le_refl _)) (it _ _ _ _ (z 378 _ (by omega)) (it _ _ _ _ (z 390 _ (by omega)) (z 389 _ (by omega)))))))))))))))
theorem aT_00 {X : Nat → Nat → Int32} (h : ∀ a k, 376 ≤ a → a ≤ 390 → X a k = 0) (h3 : ∀ k, k < 6 → X 353 k = 0 ∧ X 354 k = 0) (h1 : X 351 0 = 0) (f k : Nat) : aT X 0 0 (vR X 0) f k = 0 := by
  have e0 : vR X 0 = fun _ _ => 0 := by funext f k; exact vR_00 h f k
  have e1 : ∀ p, p ≤ 6 → aT1 (vR X 0) X p = fun _ _ => 0 := by
    intro p
    induction p with
    | zero => intro _; exact e0
    | succ p ih =>
      intro hp
      rw [aT1, ih (by omega), (h3 p (by omega)).1, (h3 p (by omega)).2, xu_sv rfl, xu_sv rfl]
  have e3 : ∀ c, aT3 (fun _ _ => 0) c = fun _ _ => 0 := by
    intro c
    induction c with
    | zero => rfl
    | succ c ih => rw [aT3, ih, xu_sv rfl]
  unfold aT
  rw [e1 6 (Nat.le_refl _), h1, aT2, xu_sv (f := fun _ _ => 0) (v := nI 0) rfl, e3, xu_sv (f := fun _ _ => 0) rfl, xu_sv (f := fun _ _ => 0) rfl]
theorem wR_00 {B V : Nat → Nat → Int32} (hB : ∀ a k, 376 ≤ a → a ≤ 390 → B a k = 0) (hV : ∀ f k, V f k = 0) {a : Nat} (h1 : 376 ≤ a) (h2 : a ≤ 390) (k : Nat) : wR B 0 V a k = 0 := by
  unfold wR
  split
  · rename_i z
    split
    · rename_i e
      subst e
      have hk : k < 12 := by have := z.2.2; simpa [ro, rq] using this
      rw [hV, show k - ro (387 - 376) 0 = k by simp [ro, rq]]
      exact bI_0 hk
    · exact hV _ _
  · exact hB a k h1 h2
theorem ICC_z {a k : Nat} (h : ¬ (a = 0 ∧ k = 3)) (h2 : ¬ (a = 93 ∧ k = 5)) (h3 : ¬ ((a = 40 ∨ a = 41 ∨ a = 12 ∨ a = 13) ∧ k < 3)) : ICC a k = 0 := by
  have e : ICC a k = IB a k := xu_ne h2
  rw [e]
  unfold IB lCl
  rw [if_neg (by omega), if_neg (by omega)]
  exact xu_ne h
theorem PCC_ok : Pok PCC := PI_ok
theorem vp0 {n : Nat} (h : 0 < n) (hn : n < 2 ^ 31) : vp_in 0 n := vp_in_nI h hn
/-- both as they are made: nothing told, nothing tied -/
theorem Rel_00 {F : Nat → Nat → Int32} (hc : ∀ a k, a < 347 → F a k = ICC a k) (hr : ∀ a k, 376 ≤ a → a ≤ 390 → F a k = 0) (hw : ∀ i, i < 117 → F 349 i = nI (rWL.getD i 0)) (h347 : F 347 1 = 0 ∧ F 347 4 = 0 ∧ F 347 5 = -1 ∧ F 347 12 = 0 ∧ F 347 13 = 0 ∧ F 347 14 = 0 ∧ F 347 15 = 0 ∧ F 347 76 = 0 ∧ F 347 77 = -1 ∧ F 347 83 = 0 ∧ F 347 85 = 0) (h366 : ∀ w, w < 3 → F 366 w = 0) (h351 : F 351 0 = 0) (hz : ∀ a k, a = 356 ∨ a = 357 ∨ a = 361 ∨ a = 363 → F a k = 0) : Rel 31 0 0 0 0 0 0 0 0 F PCC := by
  obtain ⟨f1, f4, f5, f12, f13, f14, f15, f76, f77, f83, f85⟩ := h347
  have cz : ∀ a k, a < 347 → ¬ (a = 0 ∧ k = 3) → ¬ (a = 93 ∧ k = 5) → ¬ ((a = 40 ∨ a = 41 ∨ a = 12 ∨ a = 13) ∧ k < 3) → F a k = 0 := fun a k h1 h2 h3 h4 => (hc a k h1).trans (ICC_z h2 h3 h4)
  have c40 : ∀ w, w < 3 → F (31 + 9) w = -1 := fun w h => by
    rw [hc _ _ (by omega), show ICC (31 + 9) w = IB (31 + 9) w from xu_ne (by omega)]; unfold IB lCl; rw [if_pos (by omega)]
  have v44 : ∀ f k, vB F 44 f k = 0 := fun f k => by
    simp only [vB]; split
    · exact cz _ _ (by omega) (by omega) (by omega) (by omega)
    · exact cz _ _ (by omega) (by omega) (by omega) (by omega)
  have v56 : ∀ f k, vB F 56 f k = 0 := fun f k => by
    simp only [vB]; split
    · exact cz _ _ (by omega) (by omega) (by omega) (by omega)
    · exact cz _ _ (by omega) (by omega) (by omega) (by omega)
  have vGz : ∀ V : Nat → Nat → Int32, (∀ f k, V f k = 0) → ∀ W : Nat → Nat → Int32, (∀ f k, W f k = 0) → vG 0 0 0 V W := fun V hV W hW => by
    refine ⟨⟨by omega, hV _ _, fun k => by rw [hV]; exact vp0 (by omega) (by omega), fun k => by rw [hV]; exact vp0 (by omega) (by omega)⟩, Nat.le_refl _, fun j hj => absurd hj (by omega), fun j hj => absurd hj (by omega), fun j hj => absurd hj (by omega), fun j hj => absurd hj (by omega), ⟨0, by decide, hV _ _⟩, by rw [hV, hW], ⟨0, by omega, by omega, hV _ _⟩⟩
  refine ⟨⟨by decide, PCC_ok, by decide +kernel, by decide +kernel, by decide +kernel, by decide +kernel⟩, ?_, ?_, ?_, ?_, ?_, ?_, ?_, ?_, ?_⟩
  · refine ⟨⟨0, by omega, cz _ _ (by omega) (by omega) (by omega) (by omega), f1, fun k hk => absurd hk (by omega)⟩, rRowB_ok hw rWords 0 rRow_00, fun k => ?_, fun k => ?_, ?_, ?_⟩
    · rw [cz 19 k (by omega) (by omega) (by omega) (by omega), cz 20 k (by omega) (by omega) (by omega) (by omega), cz (34 - 31 + 4) k (by omega) (by omega) (by omega) (by omega)]
      exact ⟨vp0 (by omega) (by omega), vp0 (by omega) (by omega), vp0 (by omega) (by omega)⟩
    · rw [hz 356 k (by omega), hz 357 k (by omega), hz 361 k (by omega), hz 363 k (by omega)]
      exact ⟨vp0 (by omega) (by omega), vp0 (by omega) (by omega), Or.inl rfl, vp0 (by omega) (by omega)⟩
    · rw [f4]; exact cz _ _ (by omega) (by omega) (by omega) (by omega)
    · rw [f5, hc _ _ (by omega)]; decide +kernel
  · exact ⟨by omega, cz _ _ (by omega) (by omega) (by omega) (by omega), f12, fun j hj => absurd hj (by omega)⟩
  · exact ⟨by omega, cz _ _ (by omega) (by omega) (by omega) (by omega), f14, fun j hj => absurd hj (by omega), fun k => by rw [cz (31 + 4) k (by omega) (by omega) (by omega) (by omega)]; exact vp0 (by omega) (by omega)⟩
  · have lw : ∀ w, w < 3 → LwR1 F w (Lv F 31 w) := fun w h => Or.inl ⟨h366 w h, fun N _ => by unfold Lv; rw [c40 w h, if_pos (by decide)]⟩
    refine ⟨⟨Or.inl (c40 0 (by omega)), Or.inl (c40 1 (by omega)), Or.inl (c40 2 (by omega))⟩, ⟨lw 0 (by omega), lw 1 (by omega), lw 2 (by omega)⟩, ?_⟩
    rw [f15]; exact cz _ _ (by omega) (by omega) (by omega) (by omega)
  · refine ⟨by omega, cz _ _ (by omega) (by omega) (by omega) (by omega), f13, vGz _ v44 _ v44, ⟨0, by omega, by omega, v44 _ _⟩, fun j hj => absurd hj (by omega), fun j hj => absurd hj (by omega), fun j hj => absurd hj (by omega), ?_, v44 _ _⟩
    rw [v44, h351]
  · have r0 : ∀ f k, vR F 0 f k = 0 := vR_00 hr
    refine ⟨vGz _ v56 _ v44, ⟨fun j hj => absurd hj (by omega), fun j hj => absurd hj (by omega), fun j hj => absurd hj (by omega), by rw [v56, r0], by rw [v56, r0], by rw [v56, r0]⟩, fun k => by rw [hr 379 k (by omega) (by omega)]; exact vp0 (by omega) (by omega), fun k => by rw [hr 380 k (by omega) (by omega)]; exact vp0 (by omega) (by omega), fun k hk => ⟨Or.inr (by rw [hr 386 k (by omega) (by omega)]; exact vp0 (by omega) (by omega)), ⟨0, by omega, by omega, hr 384 k (by omega) (by omega)⟩⟩, fun j hj => Or.inl (hr 387 j (by omega) (by omega))⟩
  · have c93 : F 93 5 = -1 := by rw [hc _ _ (by omega)]; decide +kernel
    exact ⟨by omega, cz _ _ (by omega) (by omega) (by omega) (by omega), f76, by rw [c93, f77], Or.inl ⟨c93, rfl⟩, fun j hj => absurd hj (by omega)⟩
  · exact ⟨by omega, by omega, cz _ _ (by omega) (by omega) (by omega) (by omega), cz _ _ (by omega) (by omega) (by omega) (by omega), f83, fun _ => 0, fun i hi => absurd hi (by omega), fun i j h1 h2 => absurd h2 (by omega)⟩
  · have c9 : F 0 9 = 0 := cz _ _ (by omega) (by omega) (by omega) (by omega)
    exact ⟨by rw [c9, f85], Or.inl c9⟩
