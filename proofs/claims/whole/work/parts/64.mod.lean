theorem m64 {a : Int64} (h0 : 0 ≤ a.toInt) : (a - a / 65521 * 65521).toInt = a.toInt % 65521 := by
  have hb := Int64.toInt_lt a
  have k : (65521 : Int64).toInt = 65521 := by decide
  have e1 : (a / 65521).toInt = a.toInt / 65521 := by
    rw [Int64.toInt_div, k, Int.tdiv_eq_ediv_of_nonneg h0]
    exact Int.bmod_eq_of_le (by omega) (by omega)
  have e2 : (a / 65521 * 65521).toInt = a.toInt / 65521 * 65521 := by
    rw [Int64.toInt_mul, e1, k]
    exact Int.bmod_eq_of_le (by omega) (by omega)
  rw [Int64.toInt_sub, e2, Int.bmod_eq_of_le (by omega) (by omega)]
  omega
theorem xor_neg {x y : Int32} : (x ^^^ y).toInt < 0 ↔ ((x.toInt < 0) ≠ (y.toInt < 0)) := by
  have e : ∀ z : Int32, (z.toInt < 0) = (z.toBitVec.msb = true) := fun z => by
    rw [BitVec.msb_eq_toInt]; simp
  rw [e, e, e, Int32.toBitVec_xor, BitVec.msb_xor]
  cases x.toBitVec.msb <;> cases y.toBitVec.msb <;> simp
theorem tdivI {x : Int} : (0 ≤ x ∧ x.tdiv 65521 = x / 65521) ∨ (x < 0 ∧ x.tdiv 65521 = -((-x) / 65521)) := by
  by_cases c : 0 ≤ x
  · exact Or.inl ⟨c, Int.tdiv_eq_ediv_of_nonneg c⟩
  · refine Or.inr ⟨by omega, ?_⟩
    have e : x.tdiv 65521 = -((-x).tdiv 65521) := by rw [Int.neg_tdiv, Int.neg_neg]
    rw [e, Int.tdiv_eq_ediv_of_nonneg (by omega)]
theorem fm_b {g : vS} {x : Int32} : 0 ≤ (V_J9_floorMod_7cf53 g x 65521).toInt ∧ (V_J9_floorMod_7cf53 g x 65521).toInt < 65521 := by
  have k : (65521 : Int32).toInt = 65521 := by decide
  have hl := Int32.le_toInt x
  have hb := Int32.toInt_lt x
  have t := tdivI (x := x.toInt)
  have e1 : (x / 65521).toInt = x.toInt.tdiv 65521 := by
    rw [Int32.toInt_div, k]
    exact Int.bmod_eq_of_le (by omega) (by omega)
  have e2 : (x / 65521 * 65521).toInt = x.toInt.tdiv 65521 * 65521 := by
    rw [Int32.toInt_mul, e1, k]
    exact Int.bmod_eq_of_le (by omega) (by omega)
  have e3 : (x - x / 65521 * 65521).toInt = x.toInt - x.toInt.tdiv 65521 * 65521 := by
    rw [Int32.toInt_sub, e2]
    exact Int.bmod_eq_of_le (by omega) (by omega)
  unfold V_J9_floorMod_7cf53
  have q := xor_neg (x := x) (y := 65521)
  rw [k] at q
  have q : (x ^^^ 65521).toInt < 0 ↔ x.toInt < 0 := q.trans (by simp)
  by_cases c : 0 ≤ x ^^^ 65521
  · rw [if_pos c, e3]
    rw [i32_le, i00] at c
    omega
  · rw [if_neg c]
    rw [i32_le, i00] at c
    by_cases d : x - x / 65521 * 65521 = 0
    · rw [if_pos d, d]; decide
    · rw [if_neg d]
      have d2 : (x - x / 65521 * 65521).toInt ≠ 0 := fun z => d (Int32.toInt_inj.mp (z.trans i00.symm))
      have e4 : ((x - x / 65521 * 65521) + 65521).toInt = (x - x / 65521 * 65521).toInt + 65521 := by
        rw [Int32.toInt_add, k, e3]
        exact Int.bmod_eq_of_le (by omega) (by omega)
      rw [e4]
      rw [e3] at d2 ⊢
      omega
