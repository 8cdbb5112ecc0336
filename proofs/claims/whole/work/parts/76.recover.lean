theorem pw_dec : ∀ i : Fin 16, ((((65519 : Int32).toUInt32 >>> ((nI i.val : Int32).toUInt32 &&& Int32.toUInt32 31)).toInt32 &&& 1) = 1 ↔ (nI (65519 / 2 ^ i.val) - nI (65519 / 2 ^ i.val) / 2 * 2) = 1) ∧ nI (65519 / 2 ^ i.val) / 2 = nI (65519 / 2 ^ (i.val + 1)) ∧ ¬ nI (65519 / 2 ^ i.val) ≤ 0 := by decide +kernel
theorem powE {g q : vS} {x x' : Int64} {y : Int32} : ∀ (k i N : Nat) (b r : Int64), i + k = 17 → i ≤ 16 → 17 ≤ N + i → VL_X7_inverseOf_12 g x k i b r = VL_X12_power_8 q x' y N (nI (65519 / 2 ^ i)) b r := by
  intro k
  induction k with
  | zero => intro i N b r hh hi; exfalso; omega
  | succ k ih =>
    intro i N b r hh hi hN
    obtain ⟨N, rfl⟩ : ∃ z, N = z + 1 := ⟨N - 1, by omega⟩
    unfold VL_X7_inverseOf_12 VL_X12_power_8
    rw [show (16 : Int32) = nI 16 from rfl]
    by_cases c : 16 ≤ i
    · have : i = 16 := by omega
      subst this
      rw [if_pos (pLe (by omega) (by omega) c), if_pos (by decide)]
    · obtain ⟨d1, d2, d3⟩ := pw_dec ⟨i, by omega⟩
      rw [if_neg (nLe (by omega) (by omega) c), if_neg d3, d2]
      by_cases e : (nI (65519 / 2 ^ i) - nI (65519 / 2 ^ i) / 2 * 2) = 1
      · rw [if_pos (d1.mpr e), if_pos (show (nI (65519 / 2 ^ i) - nI (65519 / 2 ^ (i + 1)) * 2) = 1 from by rw [← d2]; exact e)]
        exact ih (i + 1) N _ _ (by omega) (by omega) (by omega)
      · rw [if_neg (fun z => e (d1.mp z)), if_neg (show ¬ (nI (65519 / 2 ^ i) - nI (65519 / 2 ^ (i + 1)) * 2) = 1 from by rw [← d2]; exact e)]
        exact ih (i + 1) N _ _ (by omega) (by omega) (by omega)
theorem invE {g q : vS} {x : Int64} : V_X7_inverseOf g x = V_X12_power q x 65519 := powE 17 0 (65519 + 1) x 1 (by omega) (by omega) (by omega)
theorem md_b {a : Int64} (h0 : 0 ≤ a.toInt) : 0 ≤ (a - a / 65521 * 65521).toInt ∧ (a - a / 65521 * 65521).toInt < 65521 := by
  rw [m64 h0]; omega
theorem mm_b {a b : Int} (a0 : 0 ≤ a) (a1 : a < 65600) (b0 : 0 ≤ b) (b1 : b < 65600) : 0 ≤ a * b ∧ a * b < 9000000000000000000 := by
  refine ⟨Int.mul_nonneg a0 b0, ?_⟩
  have := Int.mul_le_mul (show a ≤ 65600 by omega) (show b ≤ 65600 by omega) b0 (by omega)
  omega
theorem mm64 {a b : Int64} (a0 : 0 ≤ a.toInt) (a1 : a.toInt < 65600) (b0 : 0 ≤ b.toInt) (b1 : b.toInt < 65600) : (a * b).toInt = a.toInt * b.toInt ∧ (a * b - a * b / 65521 * 65521).toInt = (a.toInt * b.toInt) % 65521 := by
  have q := mm_b a0 a1 b0 b1
  have e : (a * b).toInt = a.toInt * b.toInt := mu64 (by omega)
  exact ⟨e, by rw [m64 (by rw [e]; exact q.1), e]⟩
theorem inv_b {g : vS} {x : Int64} : ∀ (k i : Nat) (b r : Int64), 0 ≤ b.toInt → b.toInt < 65521 → 0 ≤ r.toInt → r.toInt < 65521 → 0 ≤ (VL_X7_inverseOf_12 g x k i b r).toInt ∧ (VL_X7_inverseOf_12 g x k i b r).toInt < 65521 := by
  intro k
  induction k with
  | zero => intro i b r _ _ _ _; show 0 ≤ (0 : Int64).toInt ∧ (0 : Int64).toInt < 65521; decide
  | succ k ih =>
    intro i b r b0 b1 r0 r1
    have q := (mm64 b0 (by omega) b0 (by omega)).2
    have q2 := (mm64 r0 (by omega) b0 (by omega)).2
    unfold VL_X7_inverseOf_12
    split
    · exact ⟨r0, r1⟩
    · split
      · exact ih _ _ _ (by rw [q]; omega) (by rw [q]; omega) (by rw [q2]; omega) (by rw [q2]; omega)
      · exact ih _ _ _ (by rw [q]; omega) (by rw [q]; omega) r0 r1
theorem fm_g {g h : vS} {a b : Int32} : V_J9_floorMod_7cf53 g a b = V_J9_floorMod_7cf53 h a b := rfl
theorem fm_dec : ∀ i j : Fin 9, (V_J9_floorMod_7cf53 vS0 (nI j.val - nI i.val) 65521).toInt64.toInt = (65521 + (j.val : Int) - i.val) % 65521 ∧ (((65521 + nI j.val) - nI i.val) : Int32).toInt64.toInt = 65521 + (j.val : Int) - i.val ∧ (nI j.val).toInt64.toInt = (j.val : Int) := by decide +kernel
theorem emE {a b : Int} : (a * (b % 65521)) % 65521 = (a * b) % 65521 := by rw [Int.mul_emod, Int.emod_emod, ← Int.mul_emod]
theorem emE2 {a b : Int} : ((a % 65521) * b) % 65521 = (a * b) % 65521 := by rw [Int.mul_comm, emE, Int.mul_comm]
theorem wE {g m q q9 : vS} {i : Nat} {x9 : Int64} {s : Int32} {K : Nat → Int64 → vS → Int32} (hS : rS g m) (hi : i < 9) (s0 : 0 ≤ s.toInt) (s1 : s.toInt < 65521) : ∀ (k j : Nat) (den num num' : Int64), j + k = 11 → 1 ≤ j → j ≤ 9 → 0 ≤ den.toInt → den.toInt < 65521 → 0 ≤ num.toInt → num.toInt < 65521 → num'.toInt = (s.toInt * num.toInt) % 65521 →
    VL_X12_recovered_58 m i x9 q9 K k j den num' q = K (i + 1) (x9 + (s.toInt64 * VL_X7_weightAtZero_8 g (nI i) k j den num - s.toInt64 * VL_X7_weightAtZero_8 g (nI i) k j den num / 65521 * 65521)) q := by
  intro k
  induction k with
  | zero => intro j den num num' hh h1 h9; exfalso; omega
  | succ k ih =>
    intro j den num num' hh h1 h9 d0 d1 n0 n1 hn
    have es : s.toInt64.toInt = s.toInt := Int32.toInt_toInt64 s
    unfold VL_X12_recovered_58 VL_X7_weightAtZero_8
    rw [show (8 : Int32) = nI 8 from rfl]
    by_cases c : 8 < j
    · have c' := pLt (a := 8) (b := j) (by omega) (by omega) c
      have c9 : (9 : Int32) ≤ nI j := pLe (a := 9) (b := j) (by omega) (by omega) (by omega)
      rw [if_pos c', if_pos c9, ← invE (g := g) (q := q)]
      have ib : 0 ≤ (V_X7_inverseOf g den).toInt ∧ (V_X7_inverseOf g den).toInt < 65521 := inv_b 17 0 den 1 d0 d1 (by decide) (by decide)
      generalize V_X7_inverseOf g den = I at ib
      have a1 := (mm64 n0 (by omega) ib.1 (by omega)).2
      have b1 : 0 ≤ num'.toInt ∧ num'.toInt < 65521 := by rw [hn]; omega
      have a2 := (mm64 b1.1 (by omega) ib.1 (by omega)).2
      have b3 := md_b (a := num * I) (by rw [(mm64 n0 (by omega) ib.1 (by omega)).1]; exact (mm_b n0 (by omega) ib.1 (by omega)).1)
      have a3 := (mm64 (a := s.toInt64) (by rw [es]; exact s0) (by rw [es]; omega) b3.1 (by omega)).2
      have t : num' * I - num' * I / 65521 * 65521 = s.toInt64 * (num * I - num * I / 65521 * 65521) - s.toInt64 * (num * I - num * I / 65521 * 65521) / 65521 * 65521 := by
        apply Int64.toInt_inj.mp
        rw [a2, a3, a1, es, hn, emE, emE2, Int.mul_assoc]
      rw [t]
    · have c' := nLt (a := 8) (b := j) (by omega) (by omega) c
      have c9 : ¬ (9 : Int32) ≤ nI j := nLe (a := 9) (b := j) (by omega) (by omega) (by omega)
      rw [if_neg c', if_neg c9]
      by_cases e : j = i
      · have e' : nI j = nI i := congrArg nI e
        rw [if_pos e', if_pos e']
        exact ih (j + 1) den num num' (by omega) (by omega) (by omega) d0 d1 n0 n1 hn
      · have e' : ¬ nI j = nI i := nEq (by omega) (by omega) e
        rw [if_neg e', if_neg e']
        rcases hS.1 j h1 (by omega) with ⟨p1, p2⟩ | ⟨p1, p2, p3, p4⟩
        · rw [if_pos p1, if_neg (by rw [p2]; decide : ¬ 0 ≤ m 74 j 0)]
          exact ih (j + 1) den num num' (by omega) (by omega) (by omega) d0 d1 n0 n1 hn
        · rw [if_neg (by rw [p1]; decide : ¬ g 82 j 0 = 0), if_pos (by rw [i32_le, i00]; exact p3 : 0 ≤ m 74 j 0)]
          obtain ⟨f1, f2, f3⟩ := fm_dec ⟨i, hi⟩ ⟨j, by omega⟩
          simp only [] at f1 f2 f3
          rw [fm_g (h := vS0)]
          have b1 : 0 ≤ num'.toInt ∧ num'.toInt < 65521 := by rw [hn]; omega
          have a1 := (mm64 (a := den) (b := (V_J9_floorMod_7cf53 vS0 (nI j - nI i) 65521).toInt64) d0 (by omega) (by rw [f1]; omega) (by rw [f1]; omega)).2
          have a2 := (mm64 (a := den) (b := (((65521 + nI j) - nI i) : Int32).toInt64) d0 (by omega) (by rw [f2]; omega) (by rw [f2]; omega)).2
          have a3 := (mm64 (a := num) (b := (nI j).toInt64) n0 (by omega) (by rw [f3]; omega) (by rw [f3]; omega)).2
          have a4 := (mm64 (a := num') (b := (nI j).toInt64) b1.1 (by omega) (by rw [f3]; omega) (by rw [f3]; omega)).2
          have td : den * (((65521 + nI j) - nI i) : Int32).toInt64 - den * (((65521 + nI j) - nI i) : Int32).toInt64 / 65521 * 65521 = den * (V_J9_floorMod_7cf53 vS0 (nI j - nI i) 65521).toInt64 - den * (V_J9_floorMod_7cf53 vS0 (nI j - nI i) 65521).toInt64 / 65521 * 65521 := by
            apply Int64.toInt_inj.mp
            rw [a1, a2, f1, f2, emE]
          rw [td]
          refine ih (j + 1) _ _ _ (by omega) (by omega) (by omega) (by rw [a1]; omega) (by rw [a1]; omega) (by rw [a3]; omega) (by rw [a3]; omega) ?_
          rw [a4, a3, hn, emE, emE2, Int.mul_assoc]
theorem recL {g m q : vS} (hS : rS g m) : ∀ (k i : Nat) (x : Int64), i + k = 11 → 1 ≤ i → i ≤ 9 → VL_X7_valueAtZero_4 g k i x = VL_X12_recovered_25 m k i x q := by
  intro k
  induction k with
  | zero => intro i x hh h1 h9; exfalso; omega
  | succ k ih =>
    intro i x hh h1 h9
    unfold VL_X7_valueAtZero_4 VL_X12_recovered_25
    rw [show (8 : Int32) = nI 8 from rfl]
    by_cases c : 8 < i
    · have c' := pLt (a := 8) (b := i) (by omega) (by omega) c
      have c9 : (9 : Int32) ≤ nI i := pLe (a := 9) (b := i) (by omega) (by omega) (by omega)
      rw [if_pos c9, if_pos c']
    · have c' := nLt (a := 8) (b := i) (by omega) (by omega) c
      have c9 : ¬ (9 : Int32) ≤ nI i := nLe (a := 9) (b := i) (by omega) (by omega) (by omega)
      rw [if_neg c9, if_neg c']
      rcases hS.1 i h1 (by omega) with ⟨p1, p2⟩ | ⟨p1, p2, p3, p4⟩
      · rw [if_pos p1, if_neg (by rw [p2]; decide : ¬ 0 ≤ m 74 i 0)]
        exact ih _ _ (by omega) (by omega) (by omega)
      · rw [if_neg (by rw [p1]; decide : ¬ g 82 i 0 = 0), if_pos (by rw [i32_le, i00]; exact p3 : 0 ≤ m 74 i 0), p2]
        rw [wE hS (by omega) p3 p4 (9 + 1) 1 1 1 _ (by omega) (by omega) (by omega) (by decide) (by decide) (by decide) (by decide) (by rw [Int32.toInt_toInt64, show (1 : Int64).toInt = 1 from by decide]; omega)]
        exact ih _ _ (by omega) (by omega) (by omega)
theorem recS58 {m q q9 : vS} {x9 : Int64} {i : Nat} {K : Nat → Int64 → vS → vS} (hK : ∀ i a, K i a q = q) : ∀ (k j : Nat) (a b : Int64), SL_X12_recovered_58 m i x9 q9 K k j a b q = q := by
  intro k
  induction k with
  | zero => intro j a b; rfl
  | succ k ih =>
    intro j a b
    unfold SL_X12_recovered_58
    split
    · exact hK _ _
    · split
      · exact ih _ _ _
      · split <;> exact ih _ _ _
theorem recS {m : vS} : ∀ (k i : Nat) (x : Int64) (q : vS), SL_X12_recovered_25 m k i x q = q := by
  intro k
  induction k with
  | zero => intro i x q; rfl
  | succ k ih =>
    intro i x q
    unfold SL_X12_recovered_25
    split
    · rfl
    · split
      · exact recS58 (fun i a => ih i a q) _ _ _ _
      · exact ih _ _ _
theorem s01 {a b : Int32} {N : Int} (a0 : 0 ≤ a.toInt) (a1 : a.toInt ≤ N) (hN : N ≤ 100) (hb : b = 0 ∨ b = 1) : 0 ≤ (a + b).toInt ∧ (a + b).toInt ≤ N + 1 := by
  rcases hb with rfl | rfl
  · rw [Int32.add_zero]; omega
  · rw [q_add1 (by omega)]; omega
theorem pz_recovered : PZ_recovered vInv := by
  intro n g m h hn
  have hS := h.2.2.2.2.2.2.2.2.2.2.2.2.2.2.1
  have v : ∀ k, 1 ≤ k → k ≤ 8 → g 82 k 0 = 0 ∨ g 82 k 0 = 1 := fun k h1 h2 => (hS.1 k h1 h2).imp (fun z => z.1) (fun z => z.1)
  have b : 0 ≤ (g 17 0 0).toInt := by
    rw [hS.2]
    have a1 : 0 ≤ (g 82 1 0).toInt ∧ (g 82 1 0).toInt ≤ 1 := by rcases v 1 (by omega) (by omega) with z | z <;> rw [z] <;> decide
    have a2 := s01 a1.1 a1.2 (by omega) (v 2 (by omega) (by omega))
    have a3 := s01 a2.1 a2.2 (by omega) (v 3 (by omega) (by omega))
    have a4 := s01 a3.1 a3.2 (by omega) (v 4 (by omega) (by omega))
    have a5 := s01 a4.1 a4.2 (by omega) (v 5 (by omega) (by omega))
    have a6 := s01 a5.1 a5.2 (by omega) (v 6 (by omega) (by omega))
    have a7 := s01 a6.1 a6.2 (by omega) (v 7 (by omega) (by omega))
    exact (s01 a7.1 a7.2 (by omega) (v 8 (by omega) (by omega))).1
  have cE := collE hS
  by_cases c : g 17 0 0 = 0
  · have c2 : V_X12_collected m ≤ 0 := by rw [cE, c]; decide
    have hX : X_X11_recovered g = 3 := if_pos c
    rw [hX]
    exact pz_ro h (k := 1) (by simp only [S_X12_recovered, c2, S_X12_isWrong, ↓reduceIte]) rfl (fun q => absurd q (by decide))
  · have c2 : ¬ V_X12_collected m ≤ 0 := by
      rw [cE, i32_le, i00]
      exact fun z => c (Int32.toInt_inj.mp (by rw [i00]; omega))
    have hX : X_X11_recovered g = 0 := if_neg c
    rw [hX]
    refine pz_ro h (k := 0) (by simp only [S_X12_recovered, c2, recS, S_X12_isWrong, ↓reduceIte]) rfl (fun _ => ?_)
    have v1 : V_X11_recovered g = V_X7_valueAtZero g := if_neg c
    have v2 : V_X12_recovered m = VL_X12_recovered_25 m 10 1 0 (S_X12_isWrong m 0) := if_neg c2
    rw [v1, v2]
    exact recL hS 10 1 0 (by omega) (by omega) (by omega)
