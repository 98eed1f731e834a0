/-! partner: both walk alike -/
theorem ptr_w {V : Nat → Nat → Int32} {a M g : Nat → Int32} {f : Nat → Nat} {n k p0 Th : Nat} {st0 : cS} (hn : n ≤ 12) (hk5 : k ≤ 5) (hp : p0 ≤ 999) (ha : ∀ i, i < n → a i = nI (f i) ∧ f i ≤ 9999 ∧ (¬ V 9 i = 0 → f i = 0)) (hTh : ∀ i, i < n → (Th.testBit i = true ↔ V 9 i = 0)) (hT : ∀ S j, S < 2 ^ n → j ≤ k → ∀ G, isG f j (S &&& Th) G → M (6 * S + j) = nI (p0 + wsN f S 12 + G)) (hg : ∀ i, i < n → g i = nI (f i)) : ∀ c S j G i (pr pc : Nat → Int32), S < c → S < 2 ^ n → j ≤ k → isG f j (S &&& Th) G → i ≤ 12 → (∀ q, S.testBit q = true → i ≤ q) → sCho g st0 i = cS.mk (nI (S &&& Th)) (nI j) (nI G) pc → (∀ q, Th.testBit q = true → S.testBit q = false → pc q = pr q) → ∀ q, Th.testBit q = true → (sCho g st0 12).p q = tPa V a M c S j pr q
  | 0, S, _, _, _, _, _, h, _, _, _, _, _, _, _, _, _ => absurd h (by omega)
  | c + 1, S, j, G, i, pr, pc, hc, hS, hj, hG, hi, hlo, hst, hag, q, hq => by
    have p12 : (2 : Nat) ^ n ≤ 2 ^ 12 := Nat.pow_le_pow_right (by omega) hn
    have hLS : S &&& Th ≤ S := Nat.and_le_left
    have hL : S &&& Th < 2 ^ 12 := by omega
    have hLb : ∀ x, (S &&& Th).testBit x = true → S.testBit x = true ∧ Th.testBit x = true := fun x hx => by
      rw [Nat.testBit_and] at hx
      cases z : S.testBit x <;> cases z2 : Th.testBit x <;> simp_all
    have hf : wOk g f (S &&& Th) := fun x _ hb => by
      have xn := bit_lt hS (hLb x hb).1
      exact ⟨hg x xn, (ha x xn).2.1⟩
    have gb : G ≤ 59994 := (sGain_g (g := g) (k := j) hL hf (by omega) hG).2
    rw [tPa]
    by_cases h0 : S = 0
    · subst h0
      rw [if_pos rfl]
      have e := sCho_skip (L := 0) (by omega) (by show nI (0 &&& Th) = nI 0; rw [Nat.zero_and]) hst (12 - i) (by omega) (fun x _ _ => by simp)
      rw [show i + (12 - i) = 12 by omega] at e
      rw [e]
      exact hag q hq (by simp)
    · rw [if_neg h0]
      obtain ⟨l1, l2⟩ := low_ok (S := S) (by omega) h0
      have lmin : ∀ x, x < lowB S → ¬ S.testBit x = true := fun x hx => lwB_min 12 0 x (by omega) hx
      generalize lowB S = s at l1 l2 lmin
      have sn := bit_lt hS l2
      have si := hlo s l2
      have Rne : nD S (2 ^ s) ≠ S := fun z => by
        have := nD2_at S s
        rw [z, l2] at this; exact absurd this (by decide)
      have Rle := nD_le S (2 ^ s)
      have ab : ∀ x, S.testBit x = true → s ≤ x := fun x hx => Classical.byContradiction fun z => lmin x (by omega) hx
      have abR : ∀ x, (nD S (2 ^ s)).testBit x = true → s + 1 ≤ x := fun x hx => by
        have h1 := ab x (sbs_d x hx)
        have h2 : x ≠ s := fun z => by rw [z, nD2_at] at hx; exact absurd hx (by decide)
        omega
      have sk := sCho_skip hL rfl hst (s - i) (by omega) (fun x z1 z2 y => lmin x (by omega) (hLb x y).1)
      rw [show i + (s - i) = s by omega] at sk
      have tA := tst_A hn hp ha hT hS l2 hj hG
      by_cases th : Th.testBit s = true
      · have sL : (S &&& Th).testBit s = true := by rw [Nat.testBit_and, l2, th]; rfl
        by_cases cA : isG f j (nD S (2 ^ s) &&& Th) G
        · rw [if_pos (tA.mpr cA)]
          have st' : sCho g st0 (s + 1) = cS.mk (nI (nD S (2 ^ s) &&& Th)) (nI j) (nI G) (up pc s (-2)) := by
            rw [sCho, sk, stCh_A hL hf sL l1 (by omega) (by rw [and_del]; exact cA), and_del]
          refine ptr_w hn hk5 hp ha hTh hT hg c (nD S (2 ^ s)) j G (s + 1) _ _ (by omega) (by omega) hj cA (by omega) abR st' (fun x hx hb => ?_) q hq
          by_cases e : x = s
          · subst e; rw [up_s, up_s]
          · rw [nD2_ne e] at hb
            simp only [up, if_neg e]; exact hag x hx hb
        · rw [if_neg (fun z => cA (tA.mp z))]
          rcases isG.at hL l1 sL hG with z | ⟨j1, t, t1, t2, G', z1, z2⟩
          · rw [and_del] at z; exact absurd z cA
          · obtain ⟨x, x1, x2, x3⟩ : ∃ x, x < 12 ∧ tP f (nD S (2 ^ s) &&& Th) j s G x ∧ ∀ y, y < x → ¬ tP f (nD S (2 ^ s) &&& Th) j s G y := by
              have e := fstE_g (p := tP f (nD S (2 ^ s) &&& Th) j s G) 12 0 ⟨t, by omega, by omega, by rw [← and_del]; exact ⟨t2, G', z1, z2⟩⟩
              exact ⟨_, by have := e.2; omega, e.1, fun y hy w => by
                have := fstE_at (p := tP f (nD S (2 ^ s) &&& Th) j s G) 12 0
                exact absurd hy (by
                  have hm : ∀ c0 j0, j0 ≤ y → tP f (nD S (2 ^ s) &&& Th) j s G y → fstE (tP f (nD S (2 ^ s) &&& Th) j s G) c0 j0 ≤ y ∨ j0 + c0 ≤ y := by
                    intro c0
                    induction c0 with
                    | zero => intro j0 h1 _; exact Or.inr (by omega)
                    | succ c0 ih =>
                      intro j0 h1 h2
                      unfold fstE
                      by_cases d : tP f (nD S (2 ^ s) &&& Th) j s G j0
                      · rw [if_pos d]; exact Or.inl h1
                      · rw [if_neg d]
                        by_cases e2 : j0 = y
                        · subst e2; exact absurd h2 d
                        · rcases ih (j0 + 1) (by omega) h2 with w1 | w1
                          · exact Or.inl w1
                          · exact Or.inr (by omega)
                  rcases hm 12 0 (by omega) w with w1 | w1
                  · omega
                  · have := e.2; omega)⟩
            have xb := x2.1
            rw [Nat.testBit_and] at xb
            have xR : (nD S (2 ^ s)).testBit x = true := by cases z : (nD S (2 ^ s)).testBit x <;> simp_all
            have xs := abR x xR
            have xF : tF V a M (nD S (2 ^ s)) j s (M (6 * S + j)) = x := tFt_at (11 - s) (s + 1) x (by omega) (by omega) ((tst_B hn hp ha hTh hT hS l2 hj hG).mpr x2) (fun y y1 y2 w => x3 y y2 ((tst_B hn hp ha hTh hT hS l2 hj hG).mp w))
            rw [xF]
            obtain ⟨G2, b1, b2⟩ := stCh_B (p := pc) (G := G) (j := j) (t := x) hL hf sL l1 j1 (by omega) (by omega) (by rw [and_del]; exact cA) (by rw [and_del]; exact x2) (by omega) x1 (fun y _ y2 => by rw [and_del]; exact x3 y y2)
            have le2 := nD_le (nD S (2 ^ s)) (2 ^ x)
            rw [and_del, and_del] at b1 b2
            refine ptr_w hn hk5 hp ha hTh hT hg c (nD (nD S (2 ^ s)) (2 ^ x)) (j - 1) G2 (s + 1) _ _ (by omega) (by omega) (by omega) b1 (by omega) (fun y hy => abR y (sbs_d y hy)) (by rw [sCho, sk, b2]) (fun y hy hb => ?_) q hq
            by_cases e : y = x
            · subst e; rw [up_s, up_s]
            · by_cases e2 : y = s
              · subst e2; simp only [up, if_neg e]; simp
              · rw [nD2_ne e, nD2_ne e2] at hb
                simp only [up, if_neg e, if_neg e2]; exact hag y hy hb
      · have eq : nD S (2 ^ s) &&& Th = S &&& Th := Nat.eq_of_testBit_eq fun x => by
          rw [Nat.testBit_and, Nat.testBit_and]
          by_cases e : x = s
          · have : Th.testBit s = false := by simpa using th
            rw [e, this, Bool.and_false, Bool.and_false]
          · rw [nD2_ne e]
        rw [if_pos (tA.mpr (by rw [eq]; exact hG))]
        have sk2 := sCho_skip hL rfl sk 1 (by omega) (fun x z1 z2 y => th (by rw [show s = x by omega]; exact (hLb x y).2))
        refine ptr_w hn hk5 hp ha hTh hT hg c (nD S (2 ^ s)) j G (s + 1) _ pc (by omega) (by omega) hj (by rw [eq]; exact hG) (by omega) abR (by rw [eq]; exact sk2) (fun x hx hb => ?_) q hq
        have e : x ≠ s := fun z => th (by rw [← z]; exact hx)
        rw [nD2_ne e] at hb
        simp only [up, if_neg e]; exact hag x hx hb
