theorem Z_file_o {g : vS} {w : Nat} {a x : Int32} {c i j : Nat} (h : i ≠ w) : Z_file g w a x c i j = g c i j := by
  unfold Z_file
  rw [s3_i h, s3_i h, s3_i h, s3_i h, s3_i h, s3_i h, s3_i h, s2_i h, s2_i h, s2_i h, s2_i h, s2_i h, s2_i h, s2_i h, s2_i h, s2_i h]
theorem Z_file_c {g : vS} {w : Nat} {a x : Int32} {c i j : Nat} (h : c ∉ ([50, 51, 52, 53, 61, 62, 63, 66, 105, 106] : List Nat)) : Z_file g w a x c i j = g c i j := by
  have q : ∀ k ∈ ([50, 51, 52, 53, 61, 62, 63, 66, 105, 106] : List Nat), c ≠ k := fun k hk e => h (e ▸ hk)
  unfold Z_file
  rw [s3_k (q 105 (by decide)), s3_k (q 62 (by decide)), s3_k (q 52 (by decide)), s3_k (q 63 (by decide)), s3_k (q 61 (by decide)), s3_k (q 50 (by decide)), s3_k (q 66 (by decide)), s2_k (q 106 (by decide)), s2_k (q 66 (by decide)), s2_k (q 63 (by decide)), s2_k (q 62 (by decide)), s2_k (q 61 (by decide)), s2_k (q 53 (by decide)), s2_k (q 52 (by decide)), s2_k (q 51 (by decide)), s2_k (q 50 (by decide))]
theorem Z_file_z {g : vS} {w : Nat} {a x : Int32} {j : Nat} : Z_file g w a x 51 w j = 0 ∧ Z_file g w a x 53 w j = 0 ∧ Z_file g w a x 106 w j = 0 := by
  refine ⟨?_, ?_, ?_⟩ <;> simp [Z_file, s3, s2]
theorem Z_file_v {g : vS} {w : Nat} {a x : Int32} : Z_file g w a x 66 w 0 = a ∧ Z_file g w a x 63 w 0 = pMix 6 a ∧ Z_file g w a x 62 w 0 = pMix (pMix 4 a) 0 ∧ Z_file g w a x 61 w 0 = g 42 x.toNatClampNeg 0 ∧ Z_file g w a x 105 w 0 = 1 := by
  refine ⟨?_, ?_, ?_, ?_, ?_⟩ <;> simp [Z_file, s3]
theorem Z_file_r {g : vS} {w : Nat} {a x : Int32} {j : Nat} : Z_file g w a x 50 w j = (if j = 0 then x else 0) ∧ Z_file g w a x 52 w j = (if j = 0 then pMix 6 a else 0) := by
  refine ⟨?_, ?_⟩ <;> simp [Z_file, s3, s2]
theorem vInv_file {n : Nat} {g m : vS} {x : Int32} {w : Nat} (h : vInv n g m) (hc : (g 2 0 0).toInt < 20) (hx0 : 0 ≤ x.toInt) (hx1 : x.toInt < (g 1 0 0).toInt) (hwd : (g 2 0 0).toNatClampNeg = w) : vInv (n + 1) (s3 (Z_file g w (g 2 0 0) x) 2 0 0 (g 2 0 0 + 1)) (s3 (s3 (s3 (s3 (s3 m 1 0 0 0) 55 w 0 x) 59 w 0 (m 50 x.toNatClampNeg 0)) 57 w 0 (pMix 6 (g 2 0 0))) 4 0 0 (g 2 0 0 + 1)) := by
  have e50 := vE_ h (a := 42) (b := 50) (by decide) x.toNatClampNeg 0
  obtain ⟨hE, hrU, hrUz, hrD, hrG, hrGz, hrK, hrF, hrFz, hrP, hrV, hrLg, hrW, hrC, hrS, hrQ, hrT, hrX, hrH, hrJ, hrN⟩ := h
  obtain ⟨f1, f2, f3, f4, f5⟩ := hrF
  have hw := tnI f1
  rw [hwd] at hw
  have hx := tnI hx0
  have hxw : nI w = g 2 0 0 := by rw [← hwd, q_nI f1]
  have e1 : (g 2 0 0 + 1).toInt = (g 2 0 0).toInt + 1 := q_add1 (by omega)
  have z := fun k => hrFz w k (by omega)
  have Gi : ∀ c i j, c ≠ 2 → i ≠ w → (s3 (Z_file g w (g 2 0 0) x) 2 0 0 (g 2 0 0 + 1)) c i j = g c i j := fun c i j d e => (s3_k d).trans (Z_file_o e)
  have Gw : ∀ c j, c ≠ 2 → (s3 (Z_file g w (g 2 0 0) x) 2 0 0 (g 2 0 0 + 1)) c w j = Z_file g w (g 2 0 0) x c w j := fun c j d => s3_k d
  have n0 : (s3 (Z_file g w (g 2 0 0) x) 2 0 0 (g 2 0 0 + 1)) 2 0 0 = g 2 0 0 + 1 := s3_s
  have Gg : ∀ c, c ∉ ([2, 50, 52, 61, 62, 63, 66, 105] : List Nat) → ∀ i j, (s3 (Z_file g w (g 2 0 0) x) 2 0 0 (g 2 0 0 + 1)) c i j = g c i j := fun c hc i j => by
    have q : ∀ k ∈ ([2, 50, 52, 61, 62, 63, 66, 105] : List Nat), c ≠ k := fun k hk e => hc (e ▸ hk)
    by_cases e : i = w
    · subst e
      rw [Gw c j (q 2 (by decide))]
      by_cases d : c ∈ ([51, 53, 106] : List Nat)
      · have zz := Z_file_z (g := g) (w := i) (a := g 2 0 0) (x := x) (j := j)
        have z9 := z j
        simp only [List.mem_cons, List.not_mem_nil, or_false] at d
        rcases d with rfl | rfl | rfl
        · rw [zz.1, z9.2.1]
        · rw [zz.2.1, z9.2.2.2.1]
        · rw [zz.2.2, z9.2.2.2.2]
      · refine Z_file_c (fun hh => ?_)
        simp only [List.mem_cons, List.not_mem_nil, or_false] at hh d hc
        omega
    · exact Gi c i j (q 2 (by decide)) e
  have Mm : ∀ c, c ∉ ([1, 4, 55, 57, 59] : List Nat) → ∀ i j, (s3 (s3 (s3 (s3 (s3 m 1 0 0 0) 55 w 0 x) 59 w 0 (m 50 x.toNatClampNeg 0)) 57 w 0 (pMix 6 (g 2 0 0))) 4 0 0 (g 2 0 0 + 1)) c i j = m c i j := fun c hc i j => by
    have q : ∀ k ∈ ([1, 4, 55, 57, 59] : List Nat), c ≠ k := fun k hk e => hc (e ▸ hk)
    rw [s3_k (q 4 (by decide)), s3_k (q 57 (by decide)), s3_k (q 59 (by decide)), s3_k (q 55 (by decide)), s3_k (q 1 (by decide))]
  have Mi : ∀ c i j, c ≠ 1 → c ≠ 4 → i ≠ w → (s3 (s3 (s3 (s3 (s3 m 1 0 0 0) 55 w 0 x) 59 w 0 (m 50 x.toNatClampNeg 0)) 57 w 0 (pMix 6 (g 2 0 0))) 4 0 0 (g 2 0 0 + 1)) c i j = m c i j := fun c i j d d2 e => by
    rw [s3_k d2, s3_i e, s3_i e, s3_i e, s3_k d]
  have E' : rE (s3 (Z_file g w (g 2 0 0) x) 2 0 0 (g 2 0 0 + 1)) (s3 (s3 (s3 (s3 (s3 m 1 0 0 0) 55 w 0 x) 59 w 0 (m 50 x.toNatClampNeg 0)) 57 w 0 (pMix 6 (g 2 0 0))) 4 0 0 (g 2 0 0 + 1)) := by
    intro q hq i j
    by_cases c0 : q = (2, 4)
    · subst c0
      show (s3 (Z_file g w (g 2 0 0) x) 2 0 0 (g 2 0 0 + 1)) 2 i j = (s3 (s3 (s3 (s3 (s3 m 1 0 0 0) 55 w 0 x) 59 w 0 (m 50 x.toNatClampNeg 0)) 57 w 0 (pMix 6 (g 2 0 0))) 4 0 0 (g 2 0 0 + 1)) 4 i j
      unfold s3
      by_cases d : i = 0 ∧ j = 0
      · rw [if_pos ⟨rfl, d⟩, if_pos ⟨rfl, d⟩]
      · rw [if_neg (fun z => d z.2), if_neg (fun z => d z.2), Z_file_c (by decide), if_neg (fun z => absurd z.1 (by decide)), if_neg (fun z => absurd z.1 (by decide)), if_neg (fun z => absurd z.1 (by decide)), if_neg (fun z => absurd z.1 (by decide))]
        exact hE (2, 4) (by decide) i j
    · by_cases c1 : q = (50, 55)
      · subst c1
        have q2 := hE (50, 55) (by decide) i j
        show (s3 (Z_file g w (g 2 0 0) x) 2 0 0 (g 2 0 0 + 1)) 50 i j = (s3 (s3 (s3 (s3 (s3 m 1 0 0 0) 55 w 0 x) 59 w 0 (m 50 x.toNatClampNeg 0)) 57 w 0 (pMix 6 (g 2 0 0))) 4 0 0 (g 2 0 0 + 1)) 55 i j
        rw [show (s3 (s3 (s3 (s3 (s3 m 1 0 0 0) 55 w 0 x) 59 w 0 (m 50 x.toNatClampNeg 0)) 57 w 0 (pMix 6 (g 2 0 0))) 4 0 0 (g 2 0 0 + 1)) 55 i j = s3 (s3 m 1 0 0 0) 55 w 0 x 55 i j from (s3_k (by decide)).trans ((s3_k (by decide)).trans (s3_k (by decide)))]
        by_cases e : i = w
        · subst e
          rw [Gw 50 j (by decide), Z_file_r.1]
          by_cases d : j = 0
          · subst d; rw [if_pos rfl, s3_s]
          · rw [if_neg d, s3_j d, s3_k (by decide), ← q2]
            exact (z j).1.symm
        · rw [Gi 50 i j (by decide) e, s3_i e, s3_k (by decide)]; exact q2
      · by_cases c2 : q = (52, 57)
        · subst c2
          have q2 := hE (52, 57) (by decide) i j
          show (s3 (Z_file g w (g 2 0 0) x) 2 0 0 (g 2 0 0 + 1)) 52 i j = (s3 (s3 (s3 (s3 (s3 m 1 0 0 0) 55 w 0 x) 59 w 0 (m 50 x.toNatClampNeg 0)) 57 w 0 (pMix 6 (g 2 0 0))) 4 0 0 (g 2 0 0 + 1)) 57 i j
          rw [show (s3 (s3 (s3 (s3 (s3 m 1 0 0 0) 55 w 0 x) 59 w 0 (m 50 x.toNatClampNeg 0)) 57 w 0 (pMix 6 (g 2 0 0))) 4 0 0 (g 2 0 0 + 1)) 57 i j = s3 (s3 (s3 (s3 m 1 0 0 0) 55 w 0 x) 59 w 0 (m 50 x.toNatClampNeg 0)) 57 w 0 (pMix 6 (g 2 0 0)) 57 i j from s3_k (by decide)]
          by_cases e : i = w
          · subst e
            rw [Gw 52 j (by decide), Z_file_r.2]
            by_cases d : j = 0
            · subst d; rw [if_pos rfl, s3_s]
            · rw [if_neg d, s3_j d, s3_k (by decide), s3_k (by decide), s3_k (by decide), ← q2]
              exact (z j).2.2.1.symm
          · rw [Gi 52 i j (by decide) e, s3_i e, s3_k (by decide), s3_k (by decide), s3_k (by decide)]; exact q2
        · have k1 : ∀ q ∈ vPairs, q ≠ (2, 4) → q ≠ (50, 55) → q ≠ (52, 57) → q.1 ∉ ([2, 50, 52, 61, 62, 63, 66, 105] : List Nat) ∧ q.2 ∉ ([1, 4, 55, 57, 59] : List Nat) := by decide
          have k2 := k1 q hq c0 c1 c2
          rw [Gg _ k2.1, Mm _ k2.2]; exact hE q hq i j
  have HD : rD (s3 (Z_file g w (g 2 0 0) x) 2 0 0 (g 2 0 0 + 1)) := by
    obtain ⟨q1, q2, q3, q4⟩ := hrD
    have a27 := Gg 27 (by decide); have a30 := Gg 30 (by decide)
    unfold rD
    simp only [a27, a30, n0, e1]
    exact ⟨q1, q2, fun u k hk => by have := q3 u k hk; omega, q4⟩
  have HF : rF (s3 (Z_file g w (g 2 0 0) x) 2 0 0 (g 2 0 0 + 1)) (s3 (s3 (s3 (s3 (s3 m 1 0 0 0) 55 w 0 x) 59 w 0 (m 50 x.toNatClampNeg 0)) 57 w 0 (pMix 6 (g 2 0 0))) 4 0 0 (g 2 0 0 + 1)) := by
    have a1 := Gg 1 (by decide); have a42 := Gg 42 (by decide); have a51 := Gg 51 (by decide); have b13 := Mm 13 (by decide)
    unfold rF
    simp only [a1, a42, a51, b13, n0, e1]
    refine ⟨by omega, by omega, fun f => ?_, fun f hf => ?_, fun f => ?_⟩
    · by_cases e : f = w
      · rw [e, Gw 105 0 (by decide), Z_file_v.2.2.2.2]
        exact ⟨fun q => absurd q (by decide), fun q => by omega⟩
      · rw [Gi 105 f 0 (by decide) e, f3 f]; omega
    · by_cases e : f = w
      · obtain rfl : w = f := e.symm
        have v := Z_file_v (g := g) (w := w) (a := g 2 0 0) (x := x)
        have r := Z_file_r (g := g) (w := w) (a := g 2 0 0) (x := x) (j := 0)
        rw [Gw 66 0 (by decide), Gw 63 0 (by decide), Gw 62 0 (by decide), Gw 61 0 (by decide), Gw 50 0 (by decide), v.1, v.2.1, v.2.2.1, v.2.2.2.1, r.1, if_pos rfl, (z 0).2.1, hxw]
        refine ⟨rfl, rfl, rfl, hx1, ?_, Int.le_refl _⟩
        rw [show (s3 (s3 (s3 (s3 (s3 m 1 0 0 0) 55 w 0 x) 59 w 0 (m 50 x.toNatClampNeg 0)) 57 w 0 (pMix 6 (g 2 0 0))) 4 0 0 (g 2 0 0 + 1)) 59 w (0 : Int32).toNatClampNeg = m 50 x.toNatClampNeg 0 from (s3_k (by decide)).trans ((s3_k (by decide)).trans s3_s), e50]
      · rw [Gi 66 f 0 (by decide) e, Gi 63 f 0 (by decide) e, Gi 62 f 0 (by decide) e, Gi 61 f 0 (by decide) e, Gi 50 f 0 (by decide) e, Mi 59 f _ (by decide) (by decide) e]
        exact f4 f (by omega)
    · have q := f5 f
      by_cases e : f = w
      · subst e
        rw [Gw 50 0 (by decide), Z_file_r.1, if_pos rfl]
        exact ⟨hx0, by have := hrG.2.1; omega, q.2.2⟩
      · rw [Gi 50 f 0 (by decide) e]; exact q
  have HFz : rFz (s3 (Z_file g w (g 2 0 0) x) 2 0 0 (g 2 0 0 + 1)) := by
    intro f k hf
    rw [n0, e1] at hf
    have e : f ≠ w := by omega
    rw [Gi 50 f k (by decide) e, Gi 51 f k (by decide) e, Gi 52 f k (by decide) e, Gi 53 f k (by decide) e, Gi 106 f k (by decide) e]
    exact hrFz f k (by omega)
  have HP : rP (s3 (Z_file g w (g 2 0 0) x) 2 0 0 (g 2 0 0 + 1)) (s3 (s3 (s3 (s3 (s3 m 1 0 0 0) 55 w 0 x) 59 w 0 (m 50 x.toNatClampNeg 0)) 57 w 0 (pMix 6 (g 2 0 0))) 4 0 0 (g 2 0 0 + 1)) := by
    intro f p
    by_cases e : f = w
    · subst e
      rw [Gg 106 (by decide), Mm 63 (by decide)]
      rcases hrP f p with q | q
      · exact Or.inl q
      · exact absurd (z p).2.2.2.2 q.2.1
    · rw [Gg 106 (by decide), Mm 63 (by decide), Gg 56 (by decide), Gg 57 (by decide), Mm 61 (by decide), Gg 59 (by decide), Mm 67 (by decide), Gg 58 (by decide), Mm 65 (by decide), Gg 64 (by decide), Gg 65 (by decide), Mi 59 f _ (by decide) (by decide) e, Gg 67 (by decide), Gi 50 f 0 (by decide) e, Gg 42 (by decide), Gg 60 (by decide), Gg 11 (by decide)]
      exact hrP f p
  have HQ : rQ (s3 (Z_file g w (g 2 0 0) x) 2 0 0 (g 2 0 0 + 1)) := by
    have a1 := Gg 1 (by decide); have a41 := Gg 41 (by decide); have a48 := Gg 48 (by decide); have a106 := Gg 106 (by decide)
    have pc : ∀ f, V_X4_partCount (s3 (Z_file g w (g 2 0 0) x) 2 0 0 (g 2 0 0 + 1)) f = V_X4_partCount g f := fun f => partCount_k a106 _ _ _
    have pw : V_X4_partCount g w = 0 := by
      have L : ∀ (k i : Nat) (y : Int32), i + k = 9 → i ≤ 8 → VL_X4_partCount_4 g w k i y = y := by
        intro k
        induction k with
        | zero => intro i y hh h8; exfalso; omega
        | succ k ih =>
          intro i y hh h8
          unfold VL_X4_partCount_4
          by_cases d : 8 ≤ nI i
          · rw [if_pos d]
          · rw [if_neg d, if_pos (z i).2.2.2.2]
            have ei : (nI i).toInt = (i : Int) := nI_toInt (by omega)
            rw [i32_le, ei, show (8 : Int32).toInt = 8 from by decide] at d
            exact ih _ _ (by omega) (by omega)
      exact L _ _ _ (by omega) (by omega)
    have L : ∀ (a : Nat) (k i : Nat) (y : Int32), i + k = 21 → i ≤ w → VL_X11_partsOf_4 (s3 (Z_file g w (g 2 0 0) x) 2 0 0 (g 2 0 0 + 1)) a k i y = VL_X11_partsOf_4 g a k i y := by
      intro a k
      induction k with
      | zero => intro i y hh hi; omega
      | succ k ih =>
        intro i y hh hi
        have ei : (nI i).toInt = (i : Int) := nI_toInt (by omega)
        have d2 : ¬ 20 ≤ nI i := by rw [i32_le, ei, show (20 : Int32).toInt = 20 from by decide]; omega
        unfold VL_X11_partsOf_4
        rw [n0, a48, a48, pc]
        have d1 : ¬ g 2 0 0 + 1 ≤ nI i := by rw [i32_le, ei, e1]; omega
        rw [if_neg d1, if_neg d2, if_neg d2]
        by_cases e : i = w
        · obtain rfl : w = i := e.symm
          have d3 : g 2 0 0 ≤ nI w := by rw [i32_le, ei]; omega
          have d4 : ¬ (s3 (Z_file g w (g 2 0 0) x) 2 0 0 (g 2 0 0 + 1)) 105 w 0 = 0 := by rw [Gw 105 0 (by decide), Z_file_v.2.2.2.2]; decide
          rw [if_pos d3, if_neg d4, pw, Int32.add_zero, ite_self]
          obtain ⟨k, rfl⟩ : ∃ q, k = q + 1 := ⟨k - 1, by omega⟩
          unfold VL_X11_partsOf_4
          have ej : (nI (w + 1)).toInt = ((w + 1 : Nat) : Int) := nI_toInt (by omega)
          rw [n0, if_pos (by rw [i32_le, ej, e1]; omega)]
        · have d3 : ¬ g 2 0 0 ≤ nI i := by rw [i32_le, ei]; omega
          rw [if_neg d3, Gi 105 i 0 (by decide) e, Gi 50 i 0 (by decide) e, ih _ _ (by omega) (by omega), ih _ _ (by omega) (by omega)]
    intro i hi
    rw [a1] at hi
    rw [a41, show V_X11_partsOf (s3 (Z_file g w (g 2 0 0) x) 2 0 0 (g 2 0 0 + 1)) i = V_X11_partsOf g i from L i _ _ _ (by omega) (by omega)]
    exact hrQ i hi
  have HH : rH (s3 (Z_file g w (g 2 0 0) x) 2 0 0 (g 2 0 0 + 1)) (s3 (s3 (s3 (s3 (s3 m 1 0 0 0) 55 w 0 x) 59 w 0 (m 50 x.toNatClampNeg 0)) 57 w 0 (pMix 6 (g 2 0 0))) 4 0 0 (g 2 0 0 + 1)) := by
    have a1 := Gg 1 (by decide); have a11 := Gg 11 (by decide); have a42 := Gg 42 (by decide); have a44 := Gg 44 (by decide); have a60 := Gg 60 (by decide); have a65 := Gg 65 (by decide); have a106 := Gg 106 (by decide); have b54 := Mm 54 (by decide)
    have e0 : ∀ p k, rpS (s3 (Z_file g w (g 2 0 0) x) 2 0 0 (g 2 0 0 + 1)) p k = rpS g p k := fun p k => rpS_k (Gg 85 (by decide)) (Gg 86 (by decide)) k
    obtain ⟨q1, q2, q3, q4⟩ := hrH
    unfold rH
    simp only [a1, a11, a42, a44, a60, a65, a106, b54, e0, n0, e1]
    refine ⟨q1, q2, q3, fun f p u hf hp hu => ?_⟩
    by_cases e : f = w
    · subst e; exact absurd (z p).2.2.2.2 hp
    · rw [Gi 50 f 0 (by decide) e]; exact q4 f p u (by omega) hp hu
  exact ⟨E', (rU_k (fun c hc i j => Gg c ((by decide : ∀ c ∈ ([0, 22, 25, 26, 28, 103] : List Nat), c ∉ ([2, 50, 52, 61, 62, 63, 66, 105] : List Nat)) c hc) i j)  hrU), (rUz_k (fun c hc i j => Gg c ((by decide : ∀ c ∈ ([0, 20, 21, 22, 23, 24, 25, 26, 27, 30, 31, 32] : List Nat), c ∉ ([2, 50, 52, 61, 62, 63, 66, 105] : List Nat)) c hc) i j)  hrUz), HD, (rG_k (fun c hc i j => Gg c ((by decide : ∀ c ∈ ([0, 1, 40, 41, 43, 44, 46, 48, 104] : List Nat), c ∉ ([2, 50, 52, 61, 62, 63, 66, 105] : List Nat)) c hc) i j)  hrG), (rGz_k (fun c hc i j => Gg c ((by decide : ∀ c ∈ ([1, 40, 41, 42, 43, 44] : List Nat), c ∉ ([2, 50, 52, 61, 62, 63, 66, 105] : List Nat)) c hc) i j)  hrGz), (rK_k (fun c hc i j => Gg c ((by decide : ∀ c ∈ ([1, 42, 47] : List Nat), c ∉ ([2, 50, 52, 61, 62, 63, 66, 105] : List Nat)) c hc) i j) (fun c hc i j => Mm c ((by decide : ∀ c ∈ ([54] : List Nat), c ∉ ([1, 4, 55, 57, 59] : List Nat)) c hc) i j) hrK), HF, HFz, HP, (rV_k (fun c hc i j => Gg c ((by decide : ∀ c ∈ ([51] : List Nat), c ∉ ([2, 50, 52, 61, 62, 63, 66, 105] : List Nat)) c hc) i j) (fun c hc i j => Mm c ((by decide : ∀ c ∈ ([61] : List Nat), c ∉ ([1, 4, 55, 57, 59] : List Nat)) c hc) i j) hrV), (rLg_k (fun c hc i j => Gg c ((by decide : ∀ c ∈ ([4] : List Nat), c ∉ ([2, 50, 52, 61, 62, 63, 66, 105] : List Nat)) c hc) i j)  hrLg), (rW_k (fun c hc i j => Gg c ((by decide : ∀ c ∈ ([3, 71, 72] : List Nat), c ∉ ([2, 50, 52, 61, 62, 63, 66, 105] : List Nat)) c hc) i j)  hrW), (rC_k (fun c hc i j => Gg c ((by decide : ∀ c ∈ ([5] : List Nat), c ∉ ([2, 50, 52, 61, 62, 63, 66, 105] : List Nat)) c hc) i j)  hrC), (rS_k (fun c hc i j => Gg c ((by decide : ∀ c ∈ ([17, 82, 83] : List Nat), c ∉ ([2, 50, 52, 61, 62, 63, 66, 105] : List Nat)) c hc) i j) (fun c hc i j => Mm c ((by decide : ∀ c ∈ ([74] : List Nat), c ∉ ([1, 4, 55, 57, 59] : List Nat)) c hc) i j) hrS), HQ, (rT_k (fun c hc i j => Gg c ((by decide : ∀ c ∈ ([12, 13, 14, 75] : List Nat), c ∉ ([2, 50, 52, 61, 62, 63, 66, 105] : List Nat)) c hc) i j) (fun c hc i j => Mm c ((by decide : ∀ c ∈ ([6, 14, 71] : List Nat), c ∉ ([1, 4, 55, 57, 59] : List Nat)) c hc) i j) hrT), (rX_k (fun c hc i j => Gg c ((by decide : ∀ c ∈ ([16, 72, 73] : List Nat), c ∉ ([2, 50, 52, 61, 62, 63, 66, 105] : List Nat)) c hc) i j)  hrX), HH, (rJ_k (fun c hc i j => Gg c ((by decide : ∀ c ∈ ([20] : List Nat), c ∉ ([2, 50, 52, 61, 62, 63, 66, 105] : List Nat)) c hc) i j)  hrJ), (rN_k (fun c hc i j => Gg c ((by decide : ∀ c ∈ ([0, 1, 8, 9, 11, 42, 43, 51] : List Nat), c ∉ ([2, 50, 52, 61, 62, 63, 66, 105] : List Nat)) c hc) i j) (fun c hc i j => Mm c ((by decide : ∀ c ∈ ([6, 63] : List Nat), c ∉ ([1, 4, 55, 57, 59] : List Nat)) c hc) i j) (rN_le (Nat.le_succ n) hrN))⟩
theorem needM {n : Nat} {g m : vS} (h : vInv n g m) {i : Nat} {u : Int32} (h0 : 0 ≤ u.toInt) (h6 : u.toNatClampNeg < 6) : (X_X11_needMember g i u = 0 ∧ g 44 i u.toNatClampNeg ≠ 0 ∧ m 52 i u.toNatClampNeg ≠ 0) ∨ (X_X11_needMember g i u = 4 ∧ g 44 i u.toNatClampNeg = 0 ∧ m 52 i u.toNatClampNeg = 0) := by
  have e := vE_ h (a := 44) (b := 52) (by decide) i u.toNatClampNeg
  unfold X_X11_needMember
  rw [hasM h0 h6, e]
  by_cases c : g 44 i u.toNatClampNeg = 0
  · rw [if_pos c]; exact Or.inr ⟨if_pos rfl, c, c⟩
  · rw [if_neg c]; exact Or.inl ⟨if_neg (by decide), c, c⟩
theorem pz_addFile : PZ_addFile vInv := by
  intro n g m h hn x u
  have e4 := vE_ h (a := 2) (b := 4) (by decide) 0 0
  have f1 : 0 ≤ (g 2 0 0).toInt ∧ (g 2 0 0).toInt ≤ 20 := by
    obtain ⟨-, -, -, -, -, -, -, hF, -⟩ := h
    exact ⟨hF.1, hF.2.1⟩
  rcases nG h x with ⟨a1, a2, a3, a4, a5, a6, a7⟩ | ⟨a1, a2, -⟩
  · rcases nU h u with ⟨b1, b2, b3, b4, b5, b6, b7⟩ | ⟨b1, b2, -⟩
    · rcases needM h (i := x.toNatClampNeg) b3 b5 with ⟨c1, c2, c3⟩ | ⟨c1, c2, c3⟩
      · have d0 : ¬ g 2 0 0 < 0 := by rw [i32_lt, i00]; omega
        by_cases d : (g 2 0 0).toInt < 20
        · have d1 : g 2 0 0 < 20 := by rw [i32_lt, show (20 : Int32).toInt = 20 from by decide]; exact d
          have d2 : ¬ g 2 0 0 = 20 := fun q => by rw [q] at d; exact absurd d (by decide)
          have hG : S_X11_addFile g x u = s3 (Z_file g (g 2 0 0).toNatClampNeg (g 2 0 0) x) 2 0 0 (g 2 0 0 + 1) := by simp only [S_X11_addFile, a1, b1, c1, d0, d1, ↓reduceIte]
          have hX : X_X11_addFile g x u = 0 := by simp only [X_X11_addFile, a1, b1, c1, d0, d1, ↓reduceIte]
          have hS : S_X12_addFile m x u = s3 (s3 (s3 (s3 (s3 m 1 0 0 0) 55 (g 2 0 0).toNatClampNeg 0 x) 59 (g 2 0 0).toNatClampNeg 0 (m 50 x.toNatClampNeg 0)) 57 (g 2 0 0).toNatClampNeg 0 (pMix 6 (g 2 0 0))) 4 0 0 (g 2 0 0 + 1) := by simp only [S_X12_addFile, a2, b2, c3, e4, d2, ↓reduceIte, d10]; rfl
          rw [hS, hG, hX]
          refine pz_st (k := 0) (vInv_file h d a3 a4 rfl) ((s3_k (by decide)).trans ((s3_k (by decide)).trans ((s3_k (by decide)).trans ((s3_k (by decide)).trans s3_s)))) rfl (fun _ => ?_) (p_ph ((s3_k (by decide)).trans (Z_file_c (by decide)))) (p_pb (fun _ _ => (s3_k (by decide)).trans ((s3_k (by decide)).trans ((s3_k (by decide)).trans ((s3_k (by decide)).trans (s3_k (by decide))))))) (p_pw (fun _ _ => (s3_k (by decide)).trans ((s3_k (by decide)).trans ((s3_k (by decide)).trans ((s3_k (by decide)).trans (s3_k (by decide)))))))
          simp only [V_X11_addFile, V_X12_addFile, a1, a2, b1, b2, c1, c3, e4, d0, d1, d2, ↓reduceIte, d10]
        · have d1 : ¬ g 2 0 0 < 20 := by rw [i32_lt, show (20 : Int32).toInt = 20 from by decide]; exact d
          have d2 : g 2 0 0 = 20 := Int32.toInt_inj.mp (by rw [show (20 : Int32).toInt = 20 from by decide]; omega)
          have hG : S_X11_addFile g x u = g := by simp only [S_X11_addFile, a1, b1, c1, d0, d1, ↓reduceIte]
          have hX : X_X11_addFile g x u = 3 := by simp only [X_X11_addFile, a1, b1, c1, d0, d1, ↓reduceIte]
          rw [hG, hX]
          exact pz_ro h (k := 3) (by simp only [S_X12_addFile, a2, b2, c3, e4, if_pos d2, ↓reduceIte, d10, S_X12_isWrong]) rfl (fun q => absurd q (by decide))
      · have hG : S_X11_addFile g x u = g := by simp only [S_X11_addFile, a1, b1, c1, n40, ↓reduceIte]
        have hX : X_X11_addFile g x u = 4 := by simp only [X_X11_addFile, a1, b1, c1, n40, ↓reduceIte]
        rw [hG, hX]
        exact pz_ro h (k := 2) (by simp only [S_X12_addFile, a2, b2, c3, ↓reduceIte, d10, S_X12_isWrong]) rfl (fun q => absurd q (by decide))
    · have hG : S_X11_addFile g x u = g := by simp only [S_X11_addFile, a1, b1, n10, ↓reduceIte]
      have hX : X_X11_addFile g x u = 1 := by simp only [X_X11_addFile, a1, b1, n10, ↓reduceIte]
      rw [hG, hX]
      exact pz_ro h (k := 1) (by simp only [S_X12_addFile, a2, b2, ↓reduceIte, d10, S_X12_isWrong]) rfl (fun q => absurd q (by decide))
  · have hG : S_X11_addFile g x u = g := by simp only [S_X11_addFile, a1, n10, ↓reduceIte]
    have hX : X_X11_addFile g x u = 1 := by simp only [X_X11_addFile, a1, n10, ↓reduceIte]
    rw [hG, hX]
    exact pz_ro h (k := 1) (by simp only [S_X12_addFile, a2, ↓reduceIte, S_X12_isWrong]) rfl (fun q => absurd q (by decide))
