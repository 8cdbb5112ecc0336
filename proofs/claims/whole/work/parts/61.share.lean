theorem collE {g m : vS} (h : rS g m) : V_X12_collected m = g 17 0 0 := by
  have st : ∀ (n k : Nat) (y : Int32), 1 ≤ k → k ≤ 8 → VL_X12_collected_4 m (n + 1) k y = VL_X12_collected_4 m n (k + 1) (y + g 82 k 0) := fun n k y h1 h2 => by
    have e : (nI k).toInt = (k : Int) := nI_toInt (by omega)
    have c : ¬ 8 < nI k := by rw [i32_lt, e, show (8 : Int32).toInt = 8 from by decide]; omega
    rw [show VL_X12_collected_4 m (n + 1) k y = (if 8 < nI k then y else (if m 74 k 0 < 0 then (VL_X12_collected_4 m n (k + 1) (y + 0)) else (VL_X12_collected_4 m n (k + 1) (y + 1)))) from rfl, if_neg c]
    rcases h.1 k h1 h2 with ⟨a, b⟩ | ⟨a, _, b, _⟩
    · rw [b, if_pos (by decide), a]
    · rw [if_neg (by rw [i32_lt, i00]; omega), a]
  rw [h.2]
  unfold V_X12_collected
  rw [st 9 1 _ (by omega) (by omega), st 8 2 _ (by omega) (by omega), st 7 3 _ (by omega) (by omega), st 6 4 _ (by omega) (by omega), st 5 5 _ (by omega) (by omega), st 4 6 _ (by omega) (by omega), st 3 7 _ (by omega) (by omega), st 2 8 _ (by omega) (by omega)]
  rw [show ∀ y, VL_X12_collected_4 m 2 (8 + 1) y = y from fun y => if_pos (by decide), Int32.zero_add]
theorem coll_w {m M : vS} (h : ∀ i j, M 74 i j = m 74 i j) : V_X12_collected M = V_X12_collected m := by
  have L : ∀ (k i : Nat) (y : Int32), VL_X12_collected_4 M k i y = VL_X12_collected_4 m k i y := by
    intro k
    induction k with
    | zero => intro i y; rfl
    | succ k ih => intro i y; unfold VL_X12_collected_4; rw [h, ih, ih]
  exact L _ _ _
theorem rS_put {g m G M : vS} {x : Nat} {y : Int32} (h : rS g m) (h1 : 1 ≤ x) (h2 : x ≤ 8) (y0 : 0 ≤ y.toInt) (y1 : y.toInt < 65521) (a : ∀ k, G 82 k 0 = if k = x then 1 else g 82 k 0) (b : ∀ k, G 83 k 0 = if k = x then y else g 83 k 0) (c : ∀ k, M 74 k 0 = if k = x then y else m 74 k 0) (d : G 17 0 0 = if g 82 x 0 = 0 then g 17 0 0 + 1 else g 17 0 0) : rS G M := by
  refine ⟨fun k k1 k2 => ?_, ?_⟩
  · rw [a, b, c]
    by_cases e : k = x
    · rw [if_pos e, if_pos e, if_pos e]; exact Or.inr ⟨rfl, rfl, y0, y1⟩
    · rw [if_neg e, if_neg e, if_neg e]; exact h.1 k k1 k2
  · rw [d]
    simp only [a]
    rw [h.2]
    have q := h.1 x h1 h2
    have v : g 82 x 0 = 0 ∨ g 82 x 0 = 1 := q.imp (fun z => z.1) (fun z => z.1)
    rcases (show x = 1 ∨ x = 2 ∨ x = 3 ∨ x = 4 ∨ x = 5 ∨ x = 6 ∨ x = 7 ∨ x = 8 by omega) with rfl | rfl | rfl | rfl | rfl | rfl | rfl | rfl <;> rcases v with v | v <;> simp only [v, ↓reduceIte, Nat.reduceEqDiff, d10, Int32.zero_add, Int32.add_zero] <;> ac_rfl
theorem pz_collect : PZ_collect vInv := by
  intro n g m h hn x y
  have e1 : (1 : Int32).toInt = 1 := by decide
  have e8 : (8 : Int32).toInt = 8 := by decide
  have ea : (65520 : Int32).toInt = 65520 := by decide
  have eb : (65521 : Int32).toInt = 65521 := by decide
  by_cases c : (1 ≤ x.toInt ∧ x.toInt ≤ 8) ∧ 0 ≤ y.toInt ∧ y.toInt < 65521
  · have b1 : V_X12_isBetween m x 1 8 = 1 := isB1 (by rw [e1, e8]; omega)
    have b2 : V_X12_isBetween m y 0 65520 = 1 := isB1 (by rw [i00, ea]; omega)
    have c1 : ¬ x < 1 := by rw [i32_lt, e1]; omega
    have c2 : ¬ 8 < x := by rw [i32_lt, e8]; omega
    have c9 : ¬ (9 : Int32) ≤ x := by rw [i32_le, show (9 : Int32).toInt = 9 from by decide]; omega
    have c3 : ¬ y < 0 := by rw [i32_lt, i00]; omega
    have c4 : y < 65521 := by rw [i32_lt, eb]; omega
    have xx := tnI (x := x) (by omega)
    have hrS := h.2.2.2.2.2.2.2.2.2.2.2.2.2.2.1
    have hS : S_X12_collect m x y = s3 (s3 m 1 0 0 0) 74 x.toNatClampNeg 0 y := by simp only [S_X12_collect, b1, b2, ↓reduceIte, d10, S_X12_isWrong]
    have hG : S_X11_collect g x y = S_X7_keep g x y := by simp only [S_X11_collect, c1, c2, c3, c4, ↓reduceIte]
    have hX : X_X11_collect g x y = 0 := by simp only [X_X11_collect, c1, c2, c3, c4, ↓reduceIte]
    have hK : ∀ k i j, k ≠ 17 → k ≠ 82 → k ≠ 83 → S_X7_keep g x y k i j = g k i j := fun k i j k1 k2 k3 => by
      unfold S_X7_keep
      rw [if_neg c1, if_neg c9]
      split
      · rw [s3_k k3, s3_k k2, s3_k k1]
      · rw [s3_k k3, s3_k k2]
    have r : rS (S_X7_keep g x y) (s3 (s3 m 1 0 0 0) 74 x.toNatClampNeg 0 y) := by
      refine rS_put hrS (x := x.toNatClampNeg) (y := y) (by omega) (by omega) c.2.1 c.2.2 (fun k => ?_) (fun k => ?_) (fun k => ?_) ?_
      · unfold S_X7_keep
        rw [if_neg c1, if_neg c9]
        split
        · rw [s3_k (by decide)]
          by_cases e : k = x.toNatClampNeg
          · rw [if_pos e, e, s3_s]
          · rw [if_neg e, s3_i e, s3_k (by decide)]
        · rw [s3_k (by decide)]
          by_cases e : k = x.toNatClampNeg
          · rw [if_pos e, e, s3_s]
          · rw [if_neg e, s3_i e]
      · unfold S_X7_keep
        rw [if_neg c1, if_neg c9]
        split
        · by_cases e : k = x.toNatClampNeg
          · rw [if_pos e, e, s3_s]
          · rw [if_neg e, s3_i e, s3_k (by decide), s3_k (by decide)]
        · by_cases e : k = x.toNatClampNeg
          · rw [if_pos e, e, s3_s]
          · rw [if_neg e, s3_i e, s3_k (by decide)]
      · by_cases e : k = x.toNatClampNeg
        · rw [if_pos e, e, s3_s]
        · rw [if_neg e, s3_i e, s3_k (by decide)]
      · unfold S_X7_keep
        rw [if_neg c1, if_neg c9]
        split
        · rw [s3_k (by decide), s3_k (by decide), s3_s]
        · rw [s3_k (by decide), s3_k (by decide)]
    rw [hS, hG, hX]
    refine pz_st (k := 0) ?_ ((s3_k (by decide)).trans s3_s) rfl (fun _ => ?_) (p_ph (hK 14 0 0 (by decide) (by decide) (by decide))) (p_pb (fun _ _ => (s3_k (by decide)).trans (s3_k (by decide)))) (p_pw (fun _ _ => (s3_k (by decide)).trans (s3_k (by decide))))
    · obtain ⟨hE, hrU, hrUz, hrD, hrG, hrGz, hrK, hrF, hrFz, hrP, hrV, hrLg, hrW, hrC, hrS, hrQ, hrT, hrX, hrH, hrJ, hrN⟩ := h
      exact ⟨rE_k (fun q hq i j => hK _ i j (by revert q; decide) (by revert q; decide) (by revert q; decide)) (fun q hq i j => (s3_k (by revert q; decide)).trans (s3_k (by revert q; decide))) hE, rU_k (fun c hc i j => hK c i j (nm hc (by decide)) (nm hc (by decide)) (nm hc (by decide)))  hrU, rUz_k (fun c hc i j => hK c i j (nm hc (by decide)) (nm hc (by decide)) (nm hc (by decide)))  hrUz, rD_k (fun c hc i j => hK c i j (nm hc (by decide)) (nm hc (by decide)) (nm hc (by decide)))  hrD, rG_k (fun c hc i j => hK c i j (nm hc (by decide)) (nm hc (by decide)) (nm hc (by decide)))  hrG, rGz_k (fun c hc i j => hK c i j (nm hc (by decide)) (nm hc (by decide)) (nm hc (by decide)))  hrGz, rK_k (fun c hc i j => hK c i j (nm hc (by decide)) (nm hc (by decide)) (nm hc (by decide))) (fun c hc i j => (s3_k (nm hc (by decide))).trans (s3_k (nm hc (by decide)))) hrK, rF_k (fun c hc i j => hK c i j (nm hc (by decide)) (nm hc (by decide)) (nm hc (by decide))) (fun c hc i j => (s3_k (nm hc (by decide))).trans (s3_k (nm hc (by decide)))) hrF, rFz_k (fun c hc i j => hK c i j (nm hc (by decide)) (nm hc (by decide)) (nm hc (by decide)))  hrFz, rP_k (fun c hc i j => hK c i j (nm hc (by decide)) (nm hc (by decide)) (nm hc (by decide))) (fun c hc i j => (s3_k (nm hc (by decide))).trans (s3_k (nm hc (by decide)))) hrP, rV_k (fun c hc i j => hK c i j (nm hc (by decide)) (nm hc (by decide)) (nm hc (by decide))) (fun c hc i j => (s3_k (nm hc (by decide))).trans (s3_k (nm hc (by decide)))) hrV, rLg_k (fun c hc i j => hK c i j (nm hc (by decide)) (nm hc (by decide)) (nm hc (by decide)))  hrLg, rW_k (fun c hc i j => hK c i j (nm hc (by decide)) (nm hc (by decide)) (nm hc (by decide)))  hrW, rC_k (fun c hc i j => hK c i j (nm hc (by decide)) (nm hc (by decide)) (nm hc (by decide)))  hrC, r, rQ_k (fun c hc i j => hK c i j (nm hc (by decide)) (nm hc (by decide)) (nm hc (by decide)))  hrQ, rT_k (fun c hc i j => hK c i j (nm hc (by decide)) (nm hc (by decide)) (nm hc (by decide))) (fun c hc i j => (s3_k (nm hc (by decide))).trans (s3_k (nm hc (by decide)))) hrT, rX_k (fun c hc i j => hK c i j (nm hc (by decide)) (nm hc (by decide)) (nm hc (by decide)))  hrX, rH_k (fun c hc i j => hK c i j (nm hc (by decide)) (nm hc (by decide)) (nm hc (by decide))) (fun c hc i j => (s3_k (nm hc (by decide))).trans (s3_k (nm hc (by decide)))) hrH, rJ_k (fun c hc i j => hK c i j (nm hc (by decide)) (nm hc (by decide)) (nm hc (by decide)))  hrJ, rN_k (fun c hc i j => hK c i j (nm hc (by decide)) (nm hc (by decide)) (nm hc (by decide))) (fun c hc i j => (s3_k (nm hc (by decide))).trans (s3_k (nm hc (by decide)))) (rN_le (Nat.le_succ n) hrN)⟩
    · simp only [V_X11_collect, V_X12_collect, b1, b2, c1, c2, c3, c4, ↓reduceIte, d10]
      exact (collE r).symm
  · have hX : X_X11_collect g x y = 2 ∧ S_X11_collect g x y = g := by
      unfold X_X11_collect S_X11_collect
      by_cases c1 : x < 1
      · rw [if_pos c1, if_pos c1]; exact ⟨rfl, rfl⟩
      · rw [if_neg c1, if_neg c1]
        by_cases c2 : 8 < x
        · rw [if_pos c2, if_pos c2]; exact ⟨rfl, rfl⟩
        · rw [if_neg c2, if_neg c2]
          by_cases c3 : y < 0
          · rw [if_pos c3, if_pos c3]; exact ⟨rfl, rfl⟩
          · rw [if_neg c3, if_neg c3]
            have c4 : ¬ y < 65521 := fun q => c (by rw [i32_lt, e1] at c1; rw [i32_lt, i00] at c3; rw [i32_lt, e8] at c2; rw [i32_lt, eb] at q; omega)
            rw [if_neg c4, if_neg c4]; exact ⟨rfl, rfl⟩
    rw [hX.1, hX.2]
    refine pz_ro h (k := 1) ?_ rfl (fun q => absurd q (by decide))
    by_cases d : 1 ≤ x.toInt ∧ x.toInt ≤ 8
    · have b1 : V_X12_isBetween m x 1 8 = 1 := isB1 (by rw [e1, e8]; omega)
      have b2 : V_X12_isBetween m y 0 65520 = 0 := isB0 (by rw [i00, ea]; omega)
      simp only [S_X12_collect, b1, b2, S_X12_isWrong, ↓reduceIte, d10]
    · have b1 : V_X12_isBetween m x 1 8 = 0 := isB0 (by rw [e1, e8]; omega)
      simp only [S_X12_collect, b1, S_X12_isWrong, ↓reduceIte, d10]
theorem clearE {g : vS} : S_X7_clear g = s3 (s3 (s3 (s3 (s3 (s3 (s3 (s3 (s3 g 82 1 0 0) 82 2 0 0) 82 3 0 0) 82 4 0 0) 82 5 0 0) 82 6 0 0) 82 7 0 0) 82 8 0 0) 17 0 0 0 ∧ V_X7_clear g = g 17 0 0 := by
  have st : ∀ (n k : Nat) (q : vS), k ≤ 8 → SL_X7_clear_7 g (n + 1) k q = SL_X7_clear_7 g n (k + 1) (s3 q 82 k 0 0) := fun n k q h2 => by
    have c : ¬ (9 : Int32) ≤ nI k := by rw [i32_le, nI_toInt (by omega), show (9 : Int32).toInt = 9 from by decide]; omega
    exact if_neg c
  have sv : ∀ (n k : Nat) (q : vS), k ≤ 8 → VL_X7_clear_7 g (n + 1) k q = VL_X7_clear_7 g n (k + 1) (s3 q 82 k 0 0) := fun n k q h2 => by
    have c : ¬ (9 : Int32) ≤ nI k := by rw [i32_le, nI_toInt (by omega), show (9 : Int32).toInt = 9 from by decide]; omega
    exact if_neg c
  constructor
  · unfold S_X7_clear
    rw [st 9 1 _ (by omega), st 8 2 _ (by omega), st 7 3 _ (by omega), st 6 4 _ (by omega), st 5 5 _ (by omega), st 4 6 _ (by omega), st 3 7 _ (by omega), st 2 8 _ (by omega)]
    exact if_pos (by decide)
  · unfold V_X7_clear
    rw [sv 9 1 _ (by omega), sv 8 2 _ (by omega), sv 7 3 _ (by omega), sv 6 4 _ (by omega), sv 5 5 _ (by omega), sv 4 6 _ (by omega), sv 3 7 _ (by omega), sv 2 8 _ (by omega)]
    exact if_pos (by decide)
theorem dropE {m : vS} : S_X12_drop m = (s3 (s3 (s3 (s3 (s3 (s3 (s3 (s3 (s3 m 1 0 0 0) 74 1 0 (-1)) 74 2 0 (-1)) 74 3 0 (-1)) 74 4 0 (-1)) 74 5 0 (-1)) 74 6 0 (-1)) 74 7 0 (-1)) 74 8 0 (-1)) ∧ V_X12_drop m = V_X12_collected m := by
  have st : ∀ (n k : Nat) (q : vS), k ≤ 8 → SL_X12_drop_12 m (n + 1) k q = SL_X12_drop_12 m n (k + 1) (s3 q 74 k 0 (-1)) := fun n k q h2 => by
    have c : ¬ 8 < nI k := by rw [i32_lt, nI_toInt (by omega), show (8 : Int32).toInt = 8 from by decide]; omega
    exact if_neg c
  have sv : ∀ (n k : Nat) (q : vS), k ≤ 8 → VL_X12_drop_12 m (n + 1) k q = VL_X12_drop_12 m n (k + 1) (s3 q 74 k 0 (-1)) := fun n k q h2 => by
    have c : ¬ 8 < nI k := by rw [i32_lt, nI_toInt (by omega), show (8 : Int32).toInt = 8 from by decide]; omega
    exact if_neg c
  constructor
  · unfold S_X12_drop
    rw [st 9 1 _ (by omega), st 8 2 _ (by omega), st 7 3 _ (by omega), st 6 4 _ (by omega), st 5 5 _ (by omega), st 4 6 _ (by omega), st 3 7 _ (by omega), st 2 8 _ (by omega)]
    exact if_pos (by decide)
  · unfold V_X12_drop
    rw [sv 9 1 _ (by omega), sv 8 2 _ (by omega), sv 7 3 _ (by omega), sv 6 4 _ (by omega), sv 5 5 _ (by omega), sv 4 6 _ (by omega), sv 3 7 _ (by omega), sv 2 8 _ (by omega)]
    exact (if_pos (by decide)).trans (coll_w (fun _ _ => s3_k (by decide)))
theorem pz_drop : PZ_drop vInv := by
  intro n g m h hn
  have hrS := h.2.2.2.2.2.2.2.2.2.2.2.2.2.2.1
  have hG := clearE (g := g)
  have hM := dropE (m := m)
  have Gk : ∀ c i j, c ≠ 82 → c ≠ 17 → S_X7_clear g c i j = g c i j := fun c i j d e => by
    rw [hG.1, s3_k e, s3_k d, s3_k d, s3_k d, s3_k d, s3_k d, s3_k d, s3_k d, s3_k d]
  have Mk : ∀ c i j, c ≠ 74 → c ≠ 1 → S_X12_drop m c i j = m c i j := fun c i j d e => by
    rw [hM.1, s3_k d, s3_k d, s3_k d, s3_k d, s3_k d, s3_k d, s3_k d, s3_k d, s3_k e]
  have G8 : ∀ k, 1 ≤ k → k ≤ 8 → S_X7_clear g 82 k 0 = 0 := fun k h1 h2 => by
    rw [hG.1]
    rcases (show k = 1 ∨ k = 2 ∨ k = 3 ∨ k = 4 ∨ k = 5 ∨ k = 6 ∨ k = 7 ∨ k = 8 by omega) with rfl | rfl | rfl | rfl | rfl | rfl | rfl | rfl <;> rfl
  have M8 : ∀ k, 1 ≤ k → k ≤ 8 → S_X12_drop m 74 k 0 = -1 := fun k h1 h2 => by
    rw [hM.1]
    rcases (show k = 1 ∨ k = 2 ∨ k = 3 ∨ k = 4 ∨ k = 5 ∨ k = 6 ∨ k = 7 ∨ k = 8 by omega) with rfl | rfl | rfl | rfl | rfl | rfl | rfl | rfl <;> rfl
  have r : rS (S_X7_clear g) (S_X12_drop m) := by
    refine ⟨fun k h1 h2 => Or.inl ⟨G8 k h1 h2, M8 k h1 h2⟩, ?_⟩
    rw [G8 1 (by omega) (by omega), G8 2 (by omega) (by omega), G8 3 (by omega) (by omega), G8 4 (by omega) (by omega), G8 5 (by omega) (by omega), G8 6 (by omega) (by omega), G8 7 (by omega) (by omega), G8 8 (by omega) (by omega), hG.1]; exact s3_s
  refine ⟨?_, ?_, p_ph (Gk 14 0 0 (by decide) (by decide)), p_pb (fun _ _ => Mk _ _ _ (by decide) (by decide)), p_pw (fun _ _ => Mk _ _ _ (by decide) (by decide))⟩
  · rw [hM.2, collE hrS]; exact hG.2
  · show vInv (n + 1) (S_X7_clear g) (S_X12_drop m)
    obtain ⟨hE, hrU, hrUz, hrD, hrG, hrGz, hrK, hrF, hrFz, hrP, hrV, hrLg, hrW, hrC, hrS, hrQ, hrT, hrX, hrH, hrJ, hrN⟩ := h
    exact ⟨rE_k (fun q hq i j => Gk _ i j (by revert q; decide) (by revert q; decide)) (fun q hq i j => Mk _ i j (by revert q; decide) (by revert q; decide)) hE, rU_k (fun c hc i j => Gk c i j (nm hc (by decide)) (nm hc (by decide)))  hrU, rUz_k (fun c hc i j => Gk c i j (nm hc (by decide)) (nm hc (by decide)))  hrUz, rD_k (fun c hc i j => Gk c i j (nm hc (by decide)) (nm hc (by decide)))  hrD, rG_k (fun c hc i j => Gk c i j (nm hc (by decide)) (nm hc (by decide)))  hrG, rGz_k (fun c hc i j => Gk c i j (nm hc (by decide)) (nm hc (by decide)))  hrGz, rK_k (fun c hc i j => Gk c i j (nm hc (by decide)) (nm hc (by decide))) (fun c hc i j => Mk c i j (nm hc (by decide)) (nm hc (by decide))) hrK, rF_k (fun c hc i j => Gk c i j (nm hc (by decide)) (nm hc (by decide))) (fun c hc i j => Mk c i j (nm hc (by decide)) (nm hc (by decide))) hrF, rFz_k (fun c hc i j => Gk c i j (nm hc (by decide)) (nm hc (by decide)))  hrFz, rP_k (fun c hc i j => Gk c i j (nm hc (by decide)) (nm hc (by decide))) (fun c hc i j => Mk c i j (nm hc (by decide)) (nm hc (by decide))) hrP, rV_k (fun c hc i j => Gk c i j (nm hc (by decide)) (nm hc (by decide))) (fun c hc i j => Mk c i j (nm hc (by decide)) (nm hc (by decide))) hrV, rLg_k (fun c hc i j => Gk c i j (nm hc (by decide)) (nm hc (by decide)))  hrLg, rW_k (fun c hc i j => Gk c i j (nm hc (by decide)) (nm hc (by decide)))  hrW, rC_k (fun c hc i j => Gk c i j (nm hc (by decide)) (nm hc (by decide)))  hrC, r, rQ_k (fun c hc i j => Gk c i j (nm hc (by decide)) (nm hc (by decide)))  hrQ, rT_k (fun c hc i j => Gk c i j (nm hc (by decide)) (nm hc (by decide))) (fun c hc i j => Mk c i j (nm hc (by decide)) (nm hc (by decide))) hrT, rX_k (fun c hc i j => Gk c i j (nm hc (by decide)) (nm hc (by decide)))  hrX, rH_k (fun c hc i j => Gk c i j (nm hc (by decide)) (nm hc (by decide))) (fun c hc i j => Mk c i j (nm hc (by decide)) (nm hc (by decide))) hrH, rJ_k (fun c hc i j => Gk c i j (nm hc (by decide)) (nm hc (by decide)))  hrJ, rN_k (fun c hc i j => Gk c i j (nm hc (by decide)) (nm hc (by decide))) (fun c hc i j => Mk c i j (nm hc (by decide)) (nm hc (by decide))) (rN_le (Nat.le_succ n) hrN)⟩
