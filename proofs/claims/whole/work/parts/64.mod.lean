theorem m64 {a : Int64} (h0 : 0 ≤ a.toInt) : (a - a / 65521 * 65521).toInt = a.toInt % 65521 := by
  have hb := Int64.toInt_lt a
  have k : (65521 : Int64).toInt = 65521 := by decide
  have e1 : (a / 65521).toInt = a.toInt / 65521 := by
    rw [Int64.toInt_div, k, Int.tdiv_eq_ediv_of_nonneg h0]
    exact Int.bmod_eq_of_le (by omega) (by omega)
  have e2 : (a / 65521 * 65521).toInt = a.toInt / 65521 * 65521 := by
    rw [Int64.toInt_mul, e1, k]
    exact Int.bmod_eq_of_le (by omega) (by omega)
  rw [Int64.toInt_sub, e2, Int.bmod_eq_of_le (by omega) (by omega)]
  omega
theorem xor_neg {x y : Int32} : (x ^^^ y).toInt < 0 ↔ ((x.toInt < 0) ≠ (y.toInt < 0)) := by
  have e : ∀ z : Int32, (z.toInt < 0) = (z.toBitVec.msb = true) := fun z => by
    rw [BitVec.msb_eq_toInt]; simp
  rw [e, e, e, Int32.toBitVec_xor, BitVec.msb_xor]
  cases x.toBitVec.msb <;> cases y.toBitVec.msb <;> simp
theorem tdivI {x : Int} : (0 ≤ x ∧ x.tdiv 65521 = x / 65521) ∨ (x < 0 ∧ x.tdiv 65521 = -((-x) / 65521)) := by
  by_cases c : 0 ≤ x
  · exact Or.inl ⟨c, Int.tdiv_eq_ediv_of_nonneg c⟩
  · refine Or.inr ⟨by omega, ?_⟩
    have e : x.tdiv 65521 = -((-x).tdiv 65521) := by rw [Int.neg_tdiv, Int.neg_neg]
    rw [e, Int.tdiv_eq_ediv_of_nonneg (by omega)]
theorem fm_b {g : vS} {x : Int32} : 0 ≤ (V_J9_floorMod_7cf53 g x 65521).toInt ∧ (V_J9_floorMod_7cf53 g x 65521).toInt < 65521 := by
  have k : (65521 : Int32).toInt = 65521 := by decide
  have hl := Int32.le_toInt x
  have hb := Int32.toInt_lt x
  have t := tdivI (x := x.toInt)
  have e1 : (x / 65521).toInt = x.toInt.tdiv 65521 := by
    rw [Int32.toInt_div, k]
    exact Int.bmod_eq_of_le (by omega) (by omega)
  have e2 : (x / 65521 * 65521).toInt = x.toInt.tdiv 65521 * 65521 := by
    rw [Int32.toInt_mul, e1, k]
    exact Int.bmod_eq_of_le (by omega) (by omega)
  have e3 : (x - x / 65521 * 65521).toInt = x.toInt - x.toInt.tdiv 65521 * 65521 := by
    rw [Int32.toInt_sub, e2]
    exact Int.bmod_eq_of_le (by omega) (by omega)
  unfold V_J9_floorMod_7cf53
  have q := xor_neg (x := x) (y := 65521)
  rw [k] at q
  have q : (x ^^^ 65521).toInt < 0 ↔ x.toInt < 0 := q.trans (by simp)
  by_cases c : 0 ≤ x ^^^ 65521
  · rw [if_pos c, e3]
    rw [i32_le, i00] at c
    omega
  · rw [if_neg c]
    rw [i32_le, i00] at c
    by_cases d : x - x / 65521 * 65521 = 0
    · rw [if_pos d, d]; decide
    · rw [if_neg d]
      have d2 : (x - x / 65521 * 65521).toInt ≠ 0 := fun z => d (Int32.toInt_inj.mp (z.trans i00.symm))
      have e4 : ((x - x / 65521 * 65521) + 65521).toInt = (x - x / 65521 * 65521).toInt + 65521 := by
        rw [Int32.toInt_add, k, e3]
        exact Int.bmod_eq_of_le (by omega) (by omega)
      rw [e4]
      rw [e3] at d2 ⊢
      omega
theorem ad64 {a b : Int64} (h : -9000000000000000000 < a.toInt + b.toInt ∧ a.toInt + b.toInt < 9000000000000000000) : (a + b).toInt = a.toInt + b.toInt := by
  rw [Int64.toInt_add]; exact Int.bmod_eq_of_le (by omega) (by omega)
theorem mu64 {a b : Int64} (h : -9000000000000000000 < a.toInt * b.toInt ∧ a.toInt * b.toInt < 9000000000000000000) : (a * b).toInt = a.toInt * b.toInt := by
  rw [Int64.toInt_mul]; exact Int.bmod_eq_of_le (by omega) (by omega)
theorem my_b {M y : Int} (h0 : 0 ≤ M) (h1 : M < 1000000) (y0 : 0 ≤ y) (y1 : y ≤ 8) : 0 ≤ M * y ∧ M * y ≤ 8000000 := by
  refine ⟨Int.mul_nonneg h0 y0, ?_⟩
  have := Int.mul_le_mul (show M ≤ 1000000 by omega) y1 y0 (by omega)
  omega
theorem shareL {g m q : vS} {S u b y : Int32} (hS : m 41 u.toNatClampNeg 0 = S) (s0 : 0 ≤ S.toInt ∧ S.toInt ≤ 9999) (y0 : 0 ≤ y.toInt) (y1 : y.toInt ≤ 8) : ∀ (j : Nat) (c M : Int64) (k K : Nat), j ≤ 8 → j < k → j + 1 < K → 0 ≤ M.toInt → M.toInt < 65521 → c.toInt = (M.toInt * y.toInt) % 65521 → VL_X7_shareOf_15 g S u b y k (nI j) c = VL_X12_share_65 m u y K (nI j) M q := by
  intro j
  induction j with
  | zero =>
    intro c M k K hj hk hK h0 h1 hc
    obtain ⟨k, rfl⟩ : ∃ z, k = z + 1 := ⟨k - 1, by omega⟩
    obtain ⟨K, rfl⟩ : ∃ z, K = z + 2 := ⟨K - 2, by omega⟩
    have b1 := my_b h0 (by omega) y0 y1
    unfold VL_X7_shareOf_15 VL_X12_share_65
    rw [if_pos (by decide : nI 0 < 1), if_neg (by decide : ¬ nI 0 < 0), if_pos (by decide : nI 0 = 0)]
    unfold VL_X12_share_65
    rw [if_pos (by decide : nI 0 + -1 < 0), hS]
    have e1 : (c + S.toInt64).toInt = c.toInt + S.toInt := by rw [ad64 (by rw [Int32.toInt_toInt64]; omega), Int32.toInt_toInt64]
    have e2 : (M * y.toInt64).toInt = M.toInt * y.toInt := by rw [mu64 (by rw [Int32.toInt_toInt64]; omega), Int32.toInt_toInt64]
    have e3 : (M * y.toInt64 + S.toInt64).toInt = M.toInt * y.toInt + S.toInt := by rw [ad64 (by rw [Int32.toInt_toInt64, e2]; omega), Int32.toInt_toInt64, e2]
    refine congrArg Int64.toInt32 (Int64.toInt_inj.mp ?_)
    rw [m64 (by rw [e1]; omega), m64 (by rw [e3]; omega), e1, e3]
    omega
  | succ j ih =>
    intro c M k K hj hk hK h0 h1 hc
    obtain ⟨k, rfl⟩ : ∃ z, k = z + 1 := ⟨k - 1, by omega⟩
    obtain ⟨K, rfl⟩ : ∃ z, K = z + 1 := ⟨K - 1, by omega⟩
    have b1 := my_b h0 (by omega) y0 y1
    have ej : (nI (j + 1)).toInt = ((j + 1 : Nat) : Int) := nI_toInt (by omega)
    have en : nI (j + 1) + -1 = nI j := by
      rw [← Int32.sub_eq_add_neg, show (1 : Int32) = nI 1 from rfl, qnI_sub (by omega), Nat.add_sub_cancel]
    unfold VL_X7_shareOf_15 VL_X12_share_65
    rw [if_neg (by rw [i32_lt, ej, show (1 : Int32).toInt = 1 from by decide]; omega : ¬ nI (j + 1) < 1), if_neg (by rw [i32_lt, ej, i00]; omega : ¬ nI (j + 1) < 0), if_neg (fun z => by have := congrArg Int32.toInt z; rw [ej, i00] at this; omega : ¬ nI (j + 1) = 0), en]
    have rb := fm_b (g := g) (x := pMix (pMix 3 u) (nI (j + 1)))
    have re : V_J9_floorMod_7cf53 q (pMix (pMix 3 u) (nI (j + 1))) 65521 = V_J9_floorMod_7cf53 g (pMix (pMix 3 u) (nI (j + 1))) 65521 := rfl
    rw [re]
    generalize V_J9_floorMod_7cf53 g (pMix (pMix 3 u) (nI (j + 1))) 65521 = r at rb
    have e1 : (c + r.toInt64).toInt = c.toInt + r.toInt := by rw [ad64 (by rw [Int32.toInt_toInt64]; omega), Int32.toInt_toInt64]
    have b2 := my_b (M := c.toInt + r.toInt) (y := y.toInt) (by omega) (by omega) y0 y1
    have e1m : ((c + r.toInt64) * y.toInt64).toInt = (c.toInt + r.toInt) * y.toInt := by rw [mu64 (by rw [Int32.toInt_toInt64, e1]; omega), Int32.toInt_toInt64, e1]
    have e2 : (M * y.toInt64).toInt = M.toInt * y.toInt := by rw [mu64 (by rw [Int32.toInt_toInt64]; omega), Int32.toInt_toInt64]
    have e3 : (M * y.toInt64 + r.toInt64).toInt = M.toInt * y.toInt + r.toInt := by rw [ad64 (by rw [Int32.toInt_toInt64, e2]; omega), Int32.toInt_toInt64, e2]
    have f3 := m64 (a := M * y.toInt64 + r.toInt64) (by rw [e3]; omega)
    have f1 := m64 (a := (c + r.toInt64) * y.toInt64) (by rw [e1m]; omega)
    rw [e3] at f3
    rw [e1m] at f1
    refine ih _ _ _ _ (by omega) (by omega) (by omega) (by rw [f3]; omega) (by rw [f3]; omega) ?_
    rw [f1, f3, hc, Int.mul_emod (M.toInt * y.toInt % 65521 + r.toInt) y.toInt 65521, Int.emod_add_emod, Int.mul_emod ((M.toInt * y.toInt + r.toInt) % 65521) y.toInt 65521, Int.emod_emod]
theorem share_q {m : vS} {u x : Int32} : ∀ (K : Nat) (i : Int32) (M : Int64) (q : vS), SL_X12_share_65 m u x K i M q = q := by
  intro K
  induction K with
  | zero => intro i M q; rfl
  | succ K ih =>
    intro i M q
    unfold SL_X12_share_65
    split
    · rfl
    · split <;> rw [ih]
theorem pz_share : PZ_share vInv := by
  intro n g m h hn u x
  have e45 := vE_ h (a := 25) (b := 45) (by decide)
  have e46 := vE_ h (a := 26) (b := 46) (by decide)
  have e41 := vE_ h (a := 20) (b := 41) (by decide)
  have u5 := h.2.1.2.2.2.2 u.toNatClampNeg
  have sJ : 0 ≤ (g 20 u.toNatClampNeg 0).toInt ∧ (g 20 u.toNatClampNeg 0).toInt ≤ 9999 := by
    obtain ⟨-, -, -, -, -, -, -, -, -, -, -, -, -, -, -, -, -, -, -, hJ, -⟩ := h
    exact hJ _
  have k1 : (1 : Int32).toInt = 1 := by decide
  rcases nU h u with ⟨a1, a2, a3, a4, a5, a6, a7⟩ | ⟨a1, a2, -⟩
  · by_cases c : g 25 u.toNatClampNeg 0 = 0
    · have c2 := u5.2.2.2.2.mp c
      have hX : X_X11_share g u x = 3 := by unfold X_X11_share; rw [if_pos a1, if_pos c]
      rw [hX]
      exact pz_ro h (k := 2) (by simp only [S_X12_share, a2, e46, c2, S_X12_isWrong, ↓reduceIte, d10]) rfl (fun q => absurd q (by decide))
    · have c2 : ¬ g 26 u.toNatClampNeg 0 = 0 := fun q => c (u5.2.2.2.2.mpr q)
      by_cases d : 1 ≤ x.toInt ∧ x.toInt ≤ (g 25 u.toNatClampNeg 0).toInt
      · have b1 : V_X12_isBetween m x 1 (g 25 u.toNatClampNeg 0) = 1 := isB1 (by rw [k1]; exact d)
        have c3 : ¬ x < 1 := by rw [i32_lt, k1]; omega
        have c4 : x ≤ g 25 u.toNatClampNeg 0 := i32_le.mpr d.2
        have hX : X_X11_share g u x = 0 := by unfold X_X11_share; rw [if_pos a1, if_neg c, if_neg c3, if_pos c4]
        rw [hX]
        refine pz_ro h (k := 0) (by simp only [S_X12_share, a2, e45, e46, c2, b1, share_q, S_X12_isWrong, ↓reduceIte, d10]) rfl (fun _ => ?_)
        simp only [V_X11_share, V_X12_share, a1, a2, e45, e46, c, c2, c3, c4, b1, ↓reduceIte, d10]
        have z26 : (g 26 u.toNatClampNeg 0).toInt ≠ 0 := fun z => c2 (Int32.toInt_inj.mp (z.trans i00.symm))
        have ej : g 26 u.toNatClampNeg 0 - 1 = nI ((g 26 u.toNatClampNeg 0).toNatClampNeg - 1) := by
          have q := tnI u5.2.1
          have e := q_nI u5.2.1
          rw [show g 26 u.toNatClampNeg 0 - 1 = nI (g 26 u.toNatClampNeg 0).toNatClampNeg - nI 1 from by rw [e]; rfl, qnI_sub (by omega)]
        have q := tnI u5.2.1
        unfold V_X7_shareOf
        rw [ej]
        exact shareL (e41 _ _) sJ (by omega) (by omega) _ _ _ _ _ (by omega) (by omega) (by omega) (by decide) (by decide) (by rw [show (0 : Int64).toInt = 0 from by decide, Int.zero_mul]; rfl)
      · have b1 : V_X12_isBetween m x 1 (g 25 u.toNatClampNeg 0) = 0 := isB0 (by rw [k1]; exact d)
        have hX : X_X11_share g u x = 5 := by
          unfold X_X11_share
          rw [if_pos a1, if_neg c]
          by_cases c3 : x < 1
          · rw [if_pos c3]
          · rw [if_neg c3, if_neg (by rw [i32_lt, k1] at c3; rw [i32_le]; omega)]
        rw [hX]
        exact pz_ro h (k := 3) (by simp only [S_X12_share, a2, e45, e46, c2, b1, S_X12_isWrong, ↓reduceIte, d10]) rfl (fun q => absurd q (by decide))
  · have hX : X_X11_share g u x = 1 := by unfold X_X11_share; rw [if_neg (by rw [a1]; decide), a1]
    rw [hX]
    exact pz_ro h (k := 1) (by simp only [S_X12_share, a2, S_X12_isWrong, ↓reduceIte]) rfl (fun q => absurd q (by decide))
