theorem tnI {x : Int32} (h : 0 ≤ x.toInt) : (x.toNatClampNeg : Int) = x.toInt := Int.toNat_of_nonneg h
theorem tn0 {x : Int32} (h : x.toInt ≤ 0) : x.toNatClampNeg = 0 := Int.toNat_eq_zero.mpr h
theorem i32_le {x y : Int32} : x ≤ y ↔ x.toInt ≤ y.toInt := Int32.le_iff_toInt_le
theorem i32_lt {x y : Int32} : x < y ↔ x.toInt < y.toInt := Int32.lt_iff_toInt_lt
theorem mulB {q L n : Int} (h0 : 0 ≤ q) (h1 : 0 ≤ L) (h2 : q + 2 * L + 3 ≤ n) (hn : n ≤ 512) : q * (L + 1) ≤ 32640 := by
  have e : L ≤ (509 - q) / 2 := by omega
  have e2 : q * (L + 1) ≤ q * ((509 - q) / 2 + 1) := Int.mul_le_mul_of_nonneg_left (by omega) h0
  have e3 : 2 * (q * ((509 - q) / 2 + 1)) ≤ q * (511 - q) := by
    rw [Int.mul_left_comm]
    exact Int.mul_le_mul_of_nonneg_left (by omega) h0
  have e4 : q * (511 - q) ≤ 65280 := by
    have a : (q - 255) * (q - 256) ≥ 0 := by
      rcases Int.le_total q 255 with c | c
      · have := Int.mul_nonneg (show 0 ≤ 255 - q by omega) (show 0 ≤ 256 - q by omega)
        have e9 : (255 - q) * (256 - q) = (q - 255) * (q - 256) := by rw [show (255 - q) = -(q - 255) by omega, show (256 - q) = -(q - 256) by omega, Int.neg_mul_neg]
        omega
      · rcases Int.le_total q 256 with d | d
        · have : q = 255 ∨ q = 256 := by omega
          rcases this with rfl | rfl <;> decide
        · exact Int.mul_nonneg (by omega) (by omega)
    have b : (q - 255) * (q - 256) = q * q - 511 * q + 65280 := by
      rw [Int.sub_mul, Int.mul_sub, Int.mul_sub]; omega
    have c : q * (511 - q) = 511 * q - q * q := by rw [Int.mul_sub]; omega
    omega
  omega
/-- how many tokens can be shown, and how high epochs go -/
theorem vInv_D {n : Nat} {g m : vS} (hn : n ≤ 512) (hU : rU g) (hG : rG g) (hGz : rGz g) (hN : rN n g m) (hH : 0 ≤ (g 11 0 0).toInt) : (m 6 0 0).toInt ≤ 32640 ∧ ∀ i : Nat, (g 42 i 0).toInt ≤ 255 := by
  obtain ⟨h1, h2, h3, h4, h5, h6, L, h7, h8, h9, ha, hb⟩ := hN
  have hs : ∀ i : Nat, 0 ≤ (g 43 i 0).toInt ∧ ((i : Int) < (g 1 0 0).toInt → 1 ≤ (g 43 i 0).toInt) := fun i => by
    obtain ⟨_, _, _, q4, _, q6, q7⟩ := hG
    have c : ∀ u, g 44 i u = 0 ∨ g 44 i u = 1 := fun u => (q6 i u).imp id (fun z => z.1)
    rw [q7 i]
    by_cases hi : (i : Int) < (g 1 0 0).toInt
    · obtain ⟨_, _, _, e, e2⟩ := q4 i hi
      have hlt : (g 40 i 0).toNatClampNeg < 6 := by
        rcases q6 i (g 40 i 0).toNatClampNeg with z | z
        · rw [z] at e; exact absurd e (by decide)
        · have := z.2.1; have := hU.2.1; omega
      generalize (g 40 i 0).toNatClampNeg = k at e hlt
      rcases c 0 with c0 | c0 <;> rcases c 1 with c1 | c1 <;> rcases c 2 with c2 | c2 <;> rcases c 3 with c3 | c3 <;> rcases c 4 with c4 | c4 <;> rcases c 5 with c5 | c5 <;> rw [c0, c1, c2, c3, c4, c5] <;> refine ⟨by decide, fun _ => ?_⟩ <;> first | decide | (exfalso; rcases (show k = 0 ∨ k = 1 ∨ k = 2 ∨ k = 3 ∨ k = 4 ∨ k = 5 by omega) with rfl | rfl | rfl | rfl | rfl | rfl <;> simp_all)
    · refine ⟨?_, fun z => absurd z hi⟩
      have e : ∀ k, g 44 i k = 0 := fun k => (hGz i k (by omega)).2.2.2.2
      rw [e, e, e, e, e, e]; decide
  have s0 := hs 0; have s1 := hs 1; have s2 := hs 2; have s3 := hs 3; have s4 := hs 4
  have b0 : 1 ≤ L → (g 9 0 0).toInt + 2 * L + 3 ≤ (n : Int) := fun hl => by
    have q := ha hl
    have := s0.2 (by omega)
    omega
  have bL : L ≤ 255 := by
    by_cases hl : 1 ≤ L
    · have := b0 hl; omega
    · omega
  refine ⟨?_, fun i => Int.le_trans (h9 i) bL⟩
  by_cases hl : 1 ≤ L
  · have := mulB h3 h7 (b0 hl) (by omega); omega
  · have : L = 0 := by omega
    subst this
    have := hU.1
    omega
set_option maxHeartbeats 4000000 in
theorem pz_base : PZ_base vInv := by
  intro n g m h hn
  obtain ⟨hE, hrU, hrUz, hrD, hrG, hrGz, hrK, hrF, hrFz, hrP, hrV, hrLg, hrW, hrC, hrS, hrQ, hrT, hrX, hrH, hrJ, hrN⟩ := h
  have hD9 := vInv_D hn hrU hrG hrGz hrN hrH.1
  obtain ⟨d1, d2⟩ := hD9
  have h11 := hrH.1
  have E : ∀ a b : Nat, (a, b) ∈ vPairs → ∀ i j : Nat, m b i j = g a i j := fun a b hq i j => (hE (a, b) hq i j).symm
  obtain ⟨u1, u2, u3, u4, u5⟩ := hrU
  obtain ⟨g1, g2, g3, g4, g5, g6, g7⟩ := hrG
  obtain ⟨f1, f2, f3, f4, f5⟩ := hrF
  obtain ⟨l1, l2⟩ := hrLg
  obtain ⟨w1, w2, w3, w4⟩ := hrW
  obtain ⟨c1, c2⟩ := hrC
  obtain ⟨dd1, dd2, dd3, dd4⟩ := hrD
  obtain ⟨k1, k2, k3, k4, k5⟩ := hrK
  obtain ⟨t1, t2, t3, t4, t5, t6, t7, t8, t9, ta, tb⟩ := hrT
  obtain ⟨n1, n2, n3, n4, n5, n6, L, n7, n8, n9, na, nb⟩ := hrN
  have hph : vPh g ≤ 65536 := by rcases t1 with e | e | e | e | e | e | e | e | e <;> omega
  have hpw : vPw m ≤ 65344 := by
    have e : vPw m = (m 14 0 0).toNatClampNeg := rfl
    omega
  have hpb : vPb m ≤ 20 * 20488 := by
    have q : ∀ k : Nat, vPs m k ≤ k * 20488 := fun k => by
      induction k with
      | zero => exact Nat.le_refl _
      | succ k ih =>
        have a := (f5 k).2.2.2.2.1
        have b := (f5 k).2.2.2.2.2
        have c := n1 k
        have d := tnI b
        have e : vPs m (k + 1) = vPs m k + (m 13 k 0).toNatClampNeg := rfl
        omega
    exact q 20
  refine ⟨?_, ?_, ?_, ?_, ?_, ?_, ?_, ?_, ?_, ?_, ?_, ?_, ?_, ?_, ?_, ?_, ?_, ?_, ?_, ?_, ?_, ?_, ?_, ?_, ?_, ?_, ?_, ?_, ?_, ?_, ?_, ?_, ?_, ?_, ?_, ?_, ?_, ?_⟩
  · exact (u3 _).mpr (by rw [tnI u1]; exact Int.le_refl _)
  · exact (g3 _).mpr (by rw [tnI g1]; exact Int.le_refl _)
  · exact (f3 _).mpr (by rw [tnI f1]; exact Int.le_refl _)
  · intro f hf q
    have a := (g3 _).mp q
    have b : (f : Int) < (g 2 0 0).toInt := by
      by_cases z : (g 2 0 0).toInt ≤ (f : Int)
      · exact absurd ((f3 f).mpr z) hf
      · omega
    have c := (f4 f b).2.2.2.1
    have d := (f5 f).1
    rw [tnI d] at a
    omega
  · intro j k hk
    rcases hrP j k with q | q
    · exact q.1
    · have := q.1; omega
  · exact ⟨t1, t2, by omega, t3⟩
  · exact fun u => i32_le.mpr (by have := (dd1 u).2; rw [show (10 : Int32).toInt = 10 from by decide]; exact this)
  · exact fun u => ⟨i32_le.mpr (by rw [show (0 : Int32).toInt = 0 from by decide]; exact (u5 u).2.1), i32_le.mpr (by rw [show (8 : Int32).toInt = 8 from by decide]; have := u5 u; omega)⟩
  · exact fun a => i32_le.mpr (by rw [show (40 : Int32).toInt = 40 from by decide]; exact g5 a)
  · exact ⟨i32_le.mpr (by rw [show (0 : Int32).toInt = 0 from by decide]; exact n3), i32_le.mpr (by rw [show (512 : Int32).toInt = 512 from by decide]; omega)⟩
  · exact i32_le.mpr (by rw [show (6 : Int32).toInt = 6 from by decide]; exact u2)
  · rw [E 0 2 (by decide)]; exact u1
  · rw [E 0 2 (by decide)]; exact u2
  · rw [E 1 3 (by decide)]; exact g1
  · rw [E 1 3 (by decide)]; exact g2
  · rw [E 2 4 (by decide)]; exact f1
  · rw [E 2 4 (by decide)]; exact f2
  · rw [E 4 11 (by decide)]; exact l1
  · rw [E 4 11 (by decide)]; exact l2
  · rw [E 3 5 (by decide)]; exact w1
  · rw [E 3 5 (by decide)]; exact w2
  · rw [E 5 12 (by decide)]; exact c1
  · rw [E 5 12 (by decide)]; exact c2
  · intro f; rw [E 50 55 (by decide)]; exact ⟨(f5 f).1, (f5 f).2.1⟩
  · intro f; rw [E 51 56 (by decide)]; exact ⟨(f5 f).2.2.1, (f5 f).2.2.2.1⟩
  · intro f p; rw [E 51 56 (by decide)]; exact hrV f p
  · intro u; rw [E 22 42 (by decide)]; exact (u5 u).1
  · intro u; rw [E 26 46 (by decide)]; have := u5 u; omega
  · intro i hi; rw [E 1 3 (by decide)] at hi; rw [E 41 49 (by decide)]; exact ⟨(g4 i hi).2.2.1, g5 i⟩
  · intro f; rw [E 51 56 (by decide)]
    have a := f5 f; have b := n1 f
    have d := tnI a.2.2.2.2.2
    exact ⟨by omega, by omega⟩
  · intro u k; rw [E 30 76 (by decide)]; exact dd2 u k
  · intro u; rw [E 27 81 (by decide)]; exact dd1 u
  · refine ⟨32640, 255, ⟨by omega, by omega, t9, ta, by omega⟩, by decide, fun i u => ?_, by decide⟩
    rw [E 42 50 (by decide)]
    refine ⟨k5 i, d2 i, k2 i u, ?_⟩
    by_cases hi : (i : Int) < (g 1 0 0).toInt ∧ u < 6
    · have a := k3 i u hi.1 hi.2; have b := d2 i; omega
    · rw [k4 i u (by omega)]; decide
  · intro k; rw [E 71 70 (by decide)]; exact w3 k
  · intro f; rw [E 72 72 (by decide)]; exact w4 f
  · rw [E 9 10 (by decide)]; exact ⟨i32_le.mpr (by rw [show (0 : Int32).toInt = 0 from by decide]; exact n3), i32_le.mpr (by rw [show (512 : Int32).toInt = 512 from by decide]; omega)⟩
  · omega
  · omega
theorem pz_skip : PZ_skip vInv := fun _ _ _ h _ => vInv_n h
