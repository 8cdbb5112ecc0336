theorem vInv_leave {n : Nat} {g m : vS} {X U T L : Nat} {v : Int32} (h : vInv n g m) (hn : n < 512) (hX : (X : Int) < (g 1 0 0).toInt) (hX5 : X < 5) (hU6 : U < 6) (h44 : g 44 X U ≠ 0) (hO : (g 40 X 0).toNatClampNeg ≠ U) (hT : (g 11 0 0).toNatClampNeg = T) (hL : (g 4 0 0).toNatClampNeg = L) (l0 : 0 ≤ (g 4 0 0).toInt) (l1 : (g 4 0 0).toInt < 300) : vInv (n + 1) (s3 (s3 (s3 (s3 (s3 (s3 (s3 (s3 (s3 g 44 X U 0) 43 X 0 (g 43 X 0 - 1)) 47 X U (g 42 X 0 + 1)) 42 X 0 (g 42 X 0 + 1)) 85 T 0 (nI (6 * X + U))) 86 T 0 0) 11 0 0 (g 11 0 0 + 1)) 80 L 0 v) 4 0 0 (g 4 0 0 + 1)) (s3 (s3 (s3 (s3 (s3 (s3 m 1 0 0 0) 54 X U (g 42 X 0)) 52 X U 0) 50 X 0 (g 42 X 0 + 1)) 73 L 0 v) 11 0 0 (g 4 0 0 + 1)) := by
  have bT := bE h (by omega)
  obtain ⟨hE, hrU, hrUz, hrD, hrG, hrGz, hrK, hrF, hrFz, hrP, hrV, hrLg, hrW, hrC, hrS, hrQ, hrT, hrX, hrH, hrJ, hrN⟩ := h
  have tT := tnI bT.1
  rw [hT] at tT
  have eT : (g 11 0 0 + 1).toInt = (g 11 0 0).toInt + 1 := q_add1 (by omega)
  have h41 : g 44 X U = 1 ∧ (U : Int) < (g 0 0 0).toInt := by
    rcases hrG.2.2.2.2.2.1 X U with z | z
    · exact absurd z h44
    · exact ⟨z.1, z.2.1⟩
  have k5 := hrK.2.2.2.2 X
  -- epochs stay small
  have b42 : (g 42 X 0).toInt ≤ 255 := (vInv_D (by omega) hrU hrG hrGz hrN hrH.1).2 X
  have e42 : (g 42 X 0 + 1).toInt = (g 42 X 0).toInt + 1 := q_add1 (by omega)
  have Gg : ∀ c, c ∉ ([44, 43, 47, 42, 85, 86, 11, 80, 4] : List Nat) → ∀ i j, (s3 (s3 (s3 (s3 (s3 (s3 (s3 (s3 (s3 g 44 X U 0) 43 X 0 (g 43 X 0 - 1)) 47 X U (g 42 X 0 + 1)) 42 X 0 (g 42 X 0 + 1)) 85 T 0 (nI (6 * X + U))) 86 T 0 0) 11 0 0 (g 11 0 0 + 1)) 80 L 0 v) 4 0 0 (g 4 0 0 + 1)) c i j = g c i j := fun c hc i j => by
    have q : ∀ k ∈ ([44, 43, 47, 42, 85, 86, 11, 80, 4] : List Nat), c ≠ k := fun k hk e => hc (e ▸ hk)
    rw [s3_k (q 4 (by decide)), s3_k (q 80 (by decide)), s3_k (q 11 (by decide)), s3_k (q 86 (by decide)), s3_k (q 85 (by decide)), s3_k (q 42 (by decide)), s3_k (q 47 (by decide)), s3_k (q 43 (by decide)), s3_k (q 44 (by decide))]
  have Mm : ∀ c, c ∉ ([1, 54, 52, 50, 73, 11] : List Nat) → ∀ i j, (s3 (s3 (s3 (s3 (s3 (s3 m 1 0 0 0) 54 X U (g 42 X 0)) 52 X U 0) 50 X 0 (g 42 X 0 + 1)) 73 L 0 v) 11 0 0 (g 4 0 0 + 1)) c i j = m c i j := fun c hc i j => by
    have q : ∀ k ∈ ([1, 54, 52, 50, 73, 11] : List Nat), c ≠ k := fun k hk e => hc (e ▸ hk)
    rw [s3_k (q 11 (by decide)), s3_k (q 73 (by decide)), s3_k (q 50 (by decide)), s3_k (q 52 (by decide)), s3_k (q 54 (by decide)), s3_k (q 1 (by decide))]
  have G44 : ∀ i j, (s3 (s3 (s3 (s3 (s3 (s3 (s3 (s3 (s3 g 44 X U 0) 43 X 0 (g 43 X 0 - 1)) 47 X U (g 42 X 0 + 1)) 42 X 0 (g 42 X 0 + 1)) 85 T 0 (nI (6 * X + U))) 86 T 0 0) 11 0 0 (g 11 0 0 + 1)) 80 L 0 v) 4 0 0 (g 4 0 0 + 1)) 44 i j = if i = X ∧ j = U then 0 else g 44 i j := fun i j => by
    rw [s3_k (by decide), s3_k (by decide), s3_k (by decide), s3_k (by decide), s3_k (by decide), s3_k (by decide), s3_k (by decide), s3_k (by decide)]
    unfold s3
    by_cases c : i = X ∧ j = U
    · rw [if_pos ⟨rfl, c⟩, if_pos c]
    · rw [if_neg (fun z => c z.2), if_neg c]
  have G47 : ∀ i j, (s3 (s3 (s3 (s3 (s3 (s3 (s3 (s3 (s3 g 44 X U 0) 43 X 0 (g 43 X 0 - 1)) 47 X U (g 42 X 0 + 1)) 42 X 0 (g 42 X 0 + 1)) 85 T 0 (nI (6 * X + U))) 86 T 0 0) 11 0 0 (g 11 0 0 + 1)) 80 L 0 v) 4 0 0 (g 4 0 0 + 1)) 47 i j = if i = X ∧ j = U then g 42 X 0 + 1 else g 47 i j := fun i j => by
    rw [s3_k (by decide), s3_k (by decide), s3_k (by decide), s3_k (by decide), s3_k (by decide), s3_k (by decide)]
    by_cases c : i = X ∧ j = U
    · rw [if_pos c, c.1, c.2, s3_s]
    · rw [if_neg c, show ∀ (Q : vS) w, s3 Q 47 X U w 47 i j = Q 47 i j from fun Q w => if_neg (fun z => c z.2), s3_k (by decide), s3_k (by decide)]
  have M54 : ∀ i j, (s3 (s3 (s3 (s3 (s3 (s3 m 1 0 0 0) 54 X U (g 42 X 0)) 52 X U 0) 50 X 0 (g 42 X 0 + 1)) 73 L 0 v) 11 0 0 (g 4 0 0 + 1)) 54 i j = if i = X ∧ j = U then g 42 X 0 else m 54 i j := fun i j => by
    rw [s3_k (by decide), s3_k (by decide), s3_k (by decide), s3_k (by decide)]
    by_cases c : i = X ∧ j = U
    · rw [if_pos c, c.1, c.2, s3_s]
    · rw [if_neg c, show ∀ (Q : vS) w, s3 Q 54 X U w 54 i j = Q 54 i j from fun Q w => if_neg (fun z => c z.2), s3_k (by decide)]
  have G43 : ∀ i, (s3 (s3 (s3 (s3 (s3 (s3 (s3 (s3 (s3 g 44 X U 0) 43 X 0 (g 43 X 0 - 1)) 47 X U (g 42 X 0 + 1)) 42 X 0 (g 42 X 0 + 1)) 85 T 0 (nI (6 * X + U))) 86 T 0 0) 11 0 0 (g 11 0 0 + 1)) 80 L 0 v) 4 0 0 (g 4 0 0 + 1)) 43 i 0 = if i = X then g 43 i 0 - 1 else g 43 i 0 := fun i => by
    rw [s3_k (by decide), s3_k (by decide), s3_k (by decide), s3_k (by decide), s3_k (by decide), s3_k (by decide), s3_k (by decide)]
    by_cases c : i = X
    · rw [c, s3_s, if_pos rfl]
    · rw [s3_i c, s3_k (by decide), if_neg c]
  have G42 : ∀ i, (s3 (s3 (s3 (s3 (s3 (s3 (s3 (s3 (s3 g 44 X U 0) 43 X 0 (g 43 X 0 - 1)) 47 X U (g 42 X 0 + 1)) 42 X 0 (g 42 X 0 + 1)) 85 T 0 (nI (6 * X + U))) 86 T 0 0) 11 0 0 (g 11 0 0 + 1)) 80 L 0 v) 4 0 0 (g 4 0 0 + 1)) 42 i 0 = if i = X then g 42 i 0 + 1 else g 42 i 0 := fun i => by
    rw [s3_k (by decide), s3_k (by decide), s3_k (by decide), s3_k (by decide), s3_k (by decide)]
    by_cases c : i = X
    · rw [c, s3_s, if_pos rfl]
    · rw [s3_i c, s3_k (by decide), s3_k (by decide), s3_k (by decide), if_neg c]
  have G42k : ∀ i k, i ≠ X → (s3 (s3 (s3 (s3 (s3 (s3 (s3 (s3 (s3 g 44 X U 0) 43 X 0 (g 43 X 0 - 1)) 47 X U (g 42 X 0 + 1)) 42 X 0 (g 42 X 0 + 1)) 85 T 0 (nI (6 * X + U))) 86 T 0 0) 11 0 0 (g 11 0 0 + 1)) 80 L 0 v) 4 0 0 (g 4 0 0 + 1)) 42 i k = g 42 i k := fun i k c => by
    rw [s3_k (by decide), s3_k (by decide), s3_k (by decide), s3_k (by decide), s3_k (by decide), s3_i c, s3_k (by decide), s3_k (by decide), s3_k (by decide)]
  have G42m : ∀ i, (g 42 i 0).toInt ≤ ((s3 (s3 (s3 (s3 (s3 (s3 (s3 (s3 (s3 g 44 X U 0) 43 X 0 (g 43 X 0 - 1)) 47 X U (g 42 X 0 + 1)) 42 X 0 (g 42 X 0 + 1)) 85 T 0 (nI (6 * X + U))) 86 T 0 0) 11 0 0 (g 11 0 0 + 1)) 80 L 0 v) 4 0 0 (g 4 0 0 + 1)) 42 i 0).toInt := fun i => by
    rw [G42]
    by_cases c : i = X
    · rw [if_pos c, c, e42]; omega
    · rw [if_neg c]; exact Int.le_refl _
  have G11 : (s3 (s3 (s3 (s3 (s3 (s3 (s3 (s3 (s3 g 44 X U 0) 43 X 0 (g 43 X 0 - 1)) 47 X U (g 42 X 0 + 1)) 42 X 0 (g 42 X 0 + 1)) 85 T 0 (nI (6 * X + U))) 86 T 0 0) 11 0 0 (g 11 0 0 + 1)) 80 L 0 v) 4 0 0 (g 4 0 0 + 1)) 11 0 0 = g 11 0 0 + 1 := (s3_k (by decide)).trans ((s3_k (by decide)).trans s3_s)
  have G8 : ∀ c i j, c ∈ ([85, 86] : List Nat) → i ≠ T → (s3 (s3 (s3 (s3 (s3 (s3 (s3 (s3 (s3 g 44 X U 0) 43 X 0 (g 43 X 0 - 1)) 47 X U (g 42 X 0 + 1)) 42 X 0 (g 42 X 0 + 1)) 85 T 0 (nI (6 * X + U))) 86 T 0 0) 11 0 0 (g 11 0 0 + 1)) 80 L 0 v) 4 0 0 (g 4 0 0 + 1)) c i j = g c i j := fun c i j hc hi => by
    rw [s3_k (nm hc (by decide)), s3_k (nm hc (by decide)), s3_k (nm hc (by decide)), s3_i hi, s3_i hi, s3_k (nm hc (by decide)), s3_k (nm hc (by decide)), s3_k (nm hc (by decide)), s3_k (nm hc (by decide))]
  have G85 : (s3 (s3 (s3 (s3 (s3 (s3 (s3 (s3 (s3 g 44 X U 0) 43 X 0 (g 43 X 0 - 1)) 47 X U (g 42 X 0 + 1)) 42 X 0 (g 42 X 0 + 1)) 85 T 0 (nI (6 * X + U))) 86 T 0 0) 11 0 0 (g 11 0 0 + 1)) 80 L 0 v) 4 0 0 (g 4 0 0 + 1)) 85 T 0 = nI (6 * X + U) := (s3_k (by decide)).trans ((s3_k (by decide)).trans ((s3_k (by decide)).trans ((s3_k (by decide)).trans s3_s)))
  have G86 : (s3 (s3 (s3 (s3 (s3 (s3 (s3 (s3 (s3 g 44 X U 0) 43 X 0 (g 43 X 0 - 1)) 47 X U (g 42 X 0 + 1)) 42 X 0 (g 42 X 0 + 1)) 85 T 0 (nI (6 * X + U))) 86 T 0 0) 11 0 0 (g 11 0 0 + 1)) 80 L 0 v) 4 0 0 (g 4 0 0 + 1)) 86 T 0 = 0 := (s3_k (by decide)).trans ((s3_k (by decide)).trans ((s3_k (by decide)).trans s3_s))
  have HL : rLg (s3 (s3 (s3 (s3 (s3 (s3 (s3 (s3 (s3 g 44 X U 0) 43 X 0 (g 43 X 0 - 1)) 47 X U (g 42 X 0 + 1)) 42 X 0 (g 42 X 0 + 1)) 85 T 0 (nI (6 * X + U))) 86 T 0 0) 11 0 0 (g 11 0 0 + 1)) 80 L 0 v) 4 0 0 (g 4 0 0 + 1)) := rLg_1 l0 l1 s3_s
  have HG : rG (s3 (s3 (s3 (s3 (s3 (s3 (s3 (s3 (s3 g 44 X U 0) 43 X 0 (g 43 X 0 - 1)) 47 X U (g 42 X 0 + 1)) 42 X 0 (g 42 X 0 + 1)) 85 T 0 (nI (6 * X + U))) 86 T 0 0) 11 0 0 (g 11 0 0 + 1)) 80 L 0 v) 4 0 0 (g 4 0 0 + 1)) := by
    obtain ⟨q1, q2, q3, q4, q5, q6, q7⟩ := hrG
    have a0 := Gg 0 (by decide); have a1 := Gg 1 (by decide); have a40 := Gg 40 (by decide); have a41 := Gg 41 (by decide); have a46 := Gg 46 (by decide); have a48 := Gg 48 (by decide); have a104 := Gg 104 (by decide)
    unfold rG
    simp only [a0, a1, a40, a41, a46, a48, a104]
    refine ⟨q1, q2, q3, fun i hi => ?_, q5, fun i u => ?_, fun i => ?_⟩
    · obtain ⟨r1, r2, r3, r4, r5⟩ := q4 i hi
      refine ⟨r1, r2, r3, ?_, r5⟩
      rw [G44, if_neg (fun z => hO (by rw [← z.1]; exact z.2))]
      exact r4
    · rw [G44]
      by_cases c : i = X ∧ u = U
      · rw [if_pos c]; exact Or.inl rfl
      · rw [if_neg c]; exact q6 i u
    · rw [G43]
      by_cases c : i = X
      · rw [if_pos c, q7 i, Int32.sub_eq_add_neg]
        refine (sum6 (a := fun k => (s3 (s3 (s3 (s3 (s3 (s3 (s3 (s3 (s3 g 44 X U 0) 43 X 0 (g 43 X 0 - 1)) 47 X U (g 42 X 0 + 1)) 42 X 0 (g 42 X 0 + 1)) 85 T 0 (nI (6 * X + U))) 86 T 0 0) 11 0 0 (g 11 0 0 + 1)) 80 L 0 v) 4 0 0 (g 4 0 0 + 1)) 44 i k) (b := fun k => g 44 i k) (d := -1) hU6 (fun k => ?_)).symm
        show (s3 (s3 (s3 (s3 (s3 (s3 (s3 (s3 (s3 g 44 X U 0) 43 X 0 (g 43 X 0 - 1)) 47 X U (g 42 X 0 + 1)) 42 X 0 (g 42 X 0 + 1)) 85 T 0 (nI (6 * X + U))) 86 T 0 0) 11 0 0 (g 11 0 0 + 1)) 80 L 0 v) 4 0 0 (g 4 0 0 + 1)) 44 i k = if k = U then g 44 i k + (-1) else g 44 i k
        rw [G44]
        by_cases d : k = U
        · rw [if_pos ⟨c, d⟩, if_pos d, c, d, h41.1]; decide
        · rw [if_neg (fun z => d z.2), if_neg d]
      · rw [if_neg c, G44, G44, G44, G44, G44, G44, if_neg (fun z => c z.1), if_neg (fun z => c z.1), if_neg (fun z => c z.1), if_neg (fun z => c z.1), if_neg (fun z => c z.1), if_neg (fun z => c z.1)]
        exact q7 i
  have HGz : rGz (s3 (s3 (s3 (s3 (s3 (s3 (s3 (s3 (s3 g 44 X U 0) 43 X 0 (g 43 X 0 - 1)) 47 X U (g 42 X 0 + 1)) 42 X 0 (g 42 X 0 + 1)) 85 T 0 (nI (6 * X + U))) 86 T 0 0) 11 0 0 (g 11 0 0 + 1)) 80 L 0 v) 4 0 0 (g 4 0 0 + 1)) := by
    intro i k hi
    rw [Gg 1 (by decide)] at hi
    have q := hrGz i k hi
    have c : i ≠ X := by omega
    have e43 : (s3 (s3 (s3 (s3 (s3 (s3 (s3 (s3 (s3 g 44 X U 0) 43 X 0 (g 43 X 0 - 1)) 47 X U (g 42 X 0 + 1)) 42 X 0 (g 42 X 0 + 1)) 85 T 0 (nI (6 * X + U))) 86 T 0 0) 11 0 0 (g 11 0 0 + 1)) 80 L 0 v) 4 0 0 (g 4 0 0 + 1)) 43 i k = g 43 i k := by
      rw [s3_k (by decide), s3_k (by decide), s3_k (by decide), s3_k (by decide), s3_k (by decide), s3_k (by decide), s3_k (by decide), s3_i c, s3_k (by decide)]
    rw [Gg 40 (by decide), Gg 41 (by decide), G42k i k c, e43, G44, if_neg (fun z => c z.1)]
    exact q
  have HK : rK (s3 (s3 (s3 (s3 (s3 (s3 (s3 (s3 (s3 g 44 X U 0) 43 X 0 (g 43 X 0 - 1)) 47 X U (g 42 X 0 + 1)) 42 X 0 (g 42 X 0 + 1)) 85 T 0 (nI (6 * X + U))) 86 T 0 0) 11 0 0 (g 11 0 0 + 1)) 80 L 0 v) 4 0 0 (g 4 0 0 + 1)) (s3 (s3 (s3 (s3 (s3 (s3 m 1 0 0 0) 54 X U (g 42 X 0)) 52 X U 0) 50 X 0 (g 42 X 0 + 1)) 73 L 0 v) 11 0 0 (g 4 0 0 + 1)) := by
    obtain ⟨k1, k2, k3, k4, k5'⟩ := hrK
    unfold rK
    rw [Gg 1 (by decide)]
    refine ⟨fun i j hi hj => ?_, fun i j => ?_, fun i j hi hj => ?_, fun i j hi => ?_, fun i => ?_⟩
    · rw [M54, G47]
      by_cases c : i = X ∧ j = U
      · rw [if_pos c, if_pos c]
      · rw [if_neg c, if_neg c]; exact k1 i j hi hj
    · rw [M54]
      split
      · omega
      · exact k2 i j
    · rw [M54]
      have a := G42m i
      by_cases c : i = X ∧ j = U
      · rw [if_pos c, G42, if_pos c.1, c.1, e42]; omega
      · rw [if_neg c]
        have := k3 i j hi hj
        omega
    · rw [M54, if_neg (by omega)]; exact k4 i j hi
    · have a := G42m i; have b := k5' i; omega
  have HF : rF (s3 (s3 (s3 (s3 (s3 (s3 (s3 (s3 (s3 g 44 X U 0) 43 X 0 (g 43 X 0 - 1)) 47 X U (g 42 X 0 + 1)) 42 X 0 (g 42 X 0 + 1)) 85 T 0 (nI (6 * X + U))) 86 T 0 0) 11 0 0 (g 11 0 0 + 1)) 80 L 0 v) 4 0 0 (g 4 0 0 + 1)) (s3 (s3 (s3 (s3 (s3 (s3 m 1 0 0 0) 54 X U (g 42 X 0)) 52 X U 0) 50 X 0 (g 42 X 0 + 1)) 73 L 0 v) 11 0 0 (g 4 0 0 + 1)) := by
    obtain ⟨f1, f2, f3, f4, f5⟩ := hrF
    have a1 := Gg 1 (by decide); have a2 := Gg 2 (by decide); have a50 := Gg 50 (by decide); have a51 := Gg 51 (by decide); have a61 := Gg 61 (by decide); have a62 := Gg 62 (by decide); have a63 := Gg 63 (by decide); have a66 := Gg 66 (by decide); have a105 := Gg 105 (by decide); have b13 := Mm 13 (by decide); have b59 := Mm 59 (by decide)
    unfold rF
    simp only [a1, a2, a50, a51, a61, a62, a63, a66, a105, b13, b59]
    exact ⟨f1, f2, f3, fun f hf => by
      obtain ⟨r1, r2, r3, r4, r5, r6⟩ := f4 f hf
      exact ⟨r1, r2, r3, r4, r5, Int.le_trans r6 (G42m _)⟩, f5⟩
  have HP : rP (s3 (s3 (s3 (s3 (s3 (s3 (s3 (s3 (s3 g 44 X U 0) 43 X 0 (g 43 X 0 - 1)) 47 X U (g 42 X 0 + 1)) 42 X 0 (g 42 X 0 + 1)) 85 T 0 (nI (6 * X + U))) 86 T 0 0) 11 0 0 (g 11 0 0 + 1)) 80 L 0 v) 4 0 0 (g 4 0 0 + 1)) (s3 (s3 (s3 (s3 (s3 (s3 m 1 0 0 0) 54 X U (g 42 X 0)) 52 X U 0) 50 X 0 (g 42 X 0 + 1)) 73 L 0 v) 11 0 0 (g 4 0 0 + 1)) := by
    intro f p
    rw [Gg 106 (by decide), Mm 63 (by decide), Gg 56 (by decide), Gg 57 (by decide), Mm 61 (by decide), Gg 59 (by decide), Mm 67 (by decide), Gg 58 (by decide), Mm 65 (by decide), Gg 64 (by decide), Gg 65 (by decide), Mm 59 (by decide), Gg 67 (by decide), Gg 50 (by decide), Gg 60 (by decide), G11, eT]
    rcases hrP f p with q | ⟨p0, p1, p2, p3, p4, p5, p6, p7, p8, p9, pa, pb, pc⟩
    · exact Or.inl q
    · exact Or.inr ⟨p0, p1, p2, p3, p4, p5, p6, p7, p8, p9, Int.le_trans pa (G42m _), pb, by omega⟩
  have HH : rH (s3 (s3 (s3 (s3 (s3 (s3 (s3 (s3 (s3 g 44 X U 0) 43 X 0 (g 43 X 0 - 1)) 47 X U (g 42 X 0 + 1)) 42 X 0 (g 42 X 0 + 1)) 85 T 0 (nI (6 * X + U))) 86 T 0 0) 11 0 0 (g 11 0 0 + 1)) 80 L 0 v) 4 0 0 (g 4 0 0 + 1)) (s3 (s3 (s3 (s3 (s3 (s3 m 1 0 0 0) 54 X U (g 42 X 0)) 52 X U 0) 50 X 0 (g 42 X 0 + 1)) 73 L 0 v) 11 0 0 (g 4 0 0 + 1)) := rH_ev hrH hrP hrG.2.1 (fun f hf => (hrF.2.2.2.1 f hf).2.2.2.1) (fun f => (hrF.2.2.2.2 f).1) hX hX5 hU6 tT (by omega) G8 G85 G86 G11 (Gg 1 (by decide) 0 0) (Gg 2 (by decide) 0 0) (fun c hc i j => Gg c ((by decide : ∀ c ∈ ([50, 60, 65, 106] : List Nat), c ∉ ([44, 43, 47, 42, 85, 86, 11, 80, 4] : List Nat)) c hc) i j) (fun i u c => by rw [G44, if_neg c]) (Or.inl ⟨rfl, by rw [G44, if_pos ⟨rfl, rfl⟩], by rw [M54, if_pos ⟨rfl, rfl⟩]; exact Int.le_refl _⟩) G42m (fun f u _ c => by rw [M54, if_neg c])
  have HN : rN (n + 1) (s3 (s3 (s3 (s3 (s3 (s3 (s3 (s3 (s3 g 44 X U 0) 43 X 0 (g 43 X 0 - 1)) 47 X U (g 42 X 0 + 1)) 42 X 0 (g 42 X 0 + 1)) 85 T 0 (nI (6 * X + U))) 86 T 0 0) 11 0 0 (g 11 0 0 + 1)) 80 L 0 v) 4 0 0 (g 4 0 0 + 1)) (s3 (s3 (s3 (s3 (s3 (s3 m 1 0 0 0) 54 X U (g 42 X 0)) 52 X U 0) 50 X 0 (g 42 X 0 + 1)) 73 L 0 v) 11 0 0 (g 4 0 0 + 1)) := by
    have b43 := g43b hrG
    have hO2 : 0 ≤ (g 40 X 0).toInt ∧ ((g 40 X 0).toNatClampNeg : Int) < (g 0 0 0).toInt := by
      obtain ⟨-, -, -, r4, r5⟩ := hrG.2.2.2.1 X hX
      refine ⟨r5, ?_⟩
      rcases hrG.2.2.2.2.2.1 X (g 40 X 0).toNatClampNeg with z | z
      · rw [z] at r4; exact absurd r4 (by decide)
      · exact z.2.1
    obtain ⟨n1, n2, n3, n4, n5, n6, Z, n7, n8, n9, na, nb⟩ := hrN
    have a51 := Gg 51 (by decide); have a9 := Gg 9 (by decide); have a8 := Gg 8 (by decide); have a0 := Gg 0 (by decide); have a1 := Gg 1 (by decide); have b63 := Mm 63 (by decide); have b6 := Mm 6 (by decide)
    have s := sum5 (a := fun i => ((s3 (s3 (s3 (s3 (s3 (s3 (s3 (s3 (s3 g 44 X U 0) 43 X 0 (g 43 X 0 - 1)) 47 X U (g 42 X 0 + 1)) 42 X 0 (g 42 X 0 + 1)) 85 T 0 (nI (6 * X + U))) 86 T 0 0) 11 0 0 (g 11 0 0 + 1)) 80 L 0 v) 4 0 0 (g 4 0 0 + 1)) 43 i 0).toInt) (b := fun i => (g 43 i 0).toInt) (d := -1) hX5 (fun k => by
      show ((s3 (s3 (s3 (s3 (s3 (s3 (s3 (s3 (s3 g 44 X U 0) 43 X 0 (g 43 X 0 - 1)) 47 X U (g 42 X 0 + 1)) 42 X 0 (g 42 X 0 + 1)) 85 T 0 (nI (6 * X + U))) 86 T 0 0) 11 0 0 (g 11 0 0 + 1)) 80 L 0 v) 4 0 0 (g 4 0 0 + 1)) 43 k 0).toInt = if k = X then (g 43 k 0).toInt + (-1) else (g 43 k 0).toInt
      rw [G43]
      by_cases c : k = X
      · rw [if_pos c, if_pos c, q_sub1 (by have := b43 k; omega)]; omega
      · rw [if_neg c, if_neg c])
    refine ⟨fun f => ?_, fun f p => ?_, ?_, ?_, ?_, ?_, Z + 1, by omega, ?_, fun i => ?_, fun _ => ?_, ?_⟩
    · rw [a51]; have := n1 f; omega
    · rw [b63]; have := n2 f p; omega
    · rw [a9]; exact n3
    · rw [a8]; exact n4
    · rw [a8, a9]; exact n5
    · rw [a9, G11, eT, a0]; omega
    · rw [G11, eT]; omega
    · rw [G42]
      have q := n9 i
      by_cases c : i = X
      · rw [if_pos c, c, e42]; have := n9 X; omega
      · rw [if_neg c]; omega
    · rw [a0, a1]
      have := h41.2
      omega
    · rw [b6, a9, Int.mul_add]; omega
  have E' : rE (s3 (s3 (s3 (s3 (s3 (s3 (s3 (s3 (s3 g 44 X U 0) 43 X 0 (g 43 X 0 - 1)) 47 X U (g 42 X 0 + 1)) 42 X 0 (g 42 X 0 + 1)) 85 T 0 (nI (6 * X + U))) 86 T 0 0) 11 0 0 (g 11 0 0 + 1)) 80 L 0 v) 4 0 0 (g 4 0 0 + 1)) (s3 (s3 (s3 (s3 (s3 (s3 m 1 0 0 0) 54 X U (g 42 X 0)) 52 X U 0) 50 X 0 (g 42 X 0 + 1)) 73 L 0 v) 11 0 0 (g 4 0 0 + 1)) := rE_s (by decide) (by decide) (rE_s (by decide) (by decide) (rE_g (by decide) (rE_g (by decide) (rE_g (by decide) (rE_s (by decide) (by decide) (rE_g (by decide) (rE_g (by decide) (rE_s (by decide) (by decide) (rE_m (by decide) (rE_m (by decide) hE))))))))))
  exact ⟨E', (rU_k (fun c hc i j => Gg c ((by decide : ∀ c ∈ ([0, 22, 25, 26, 28, 103] : List Nat), c ∉ ([44, 43, 47, 42, 85, 86, 11, 80, 4] : List Nat)) c hc) i j)  hrU), (rUz_k (fun c hc i j => Gg c ((by decide : ∀ c ∈ ([0, 20, 21, 22, 23, 24, 25, 26, 27, 30, 31, 32] : List Nat), c ∉ ([44, 43, 47, 42, 85, 86, 11, 80, 4] : List Nat)) c hc) i j)  hrUz), (rD_k (fun c hc i j => Gg c ((by decide : ∀ c ∈ ([2, 27, 30] : List Nat), c ∉ ([44, 43, 47, 42, 85, 86, 11, 80, 4] : List Nat)) c hc) i j)  hrD), HG, HGz, HK, HF, (rFz_k (fun c hc i j => Gg c ((by decide : ∀ c ∈ ([2, 50, 51, 52, 53, 106] : List Nat), c ∉ ([44, 43, 47, 42, 85, 86, 11, 80, 4] : List Nat)) c hc) i j)  hrFz), HP, (rV_k (fun c hc i j => Gg c ((by decide : ∀ c ∈ ([51] : List Nat), c ∉ ([44, 43, 47, 42, 85, 86, 11, 80, 4] : List Nat)) c hc) i j) (fun c hc i j => Mm c ((by decide : ∀ c ∈ ([61] : List Nat), c ∉ ([1, 54, 52, 50, 73, 11] : List Nat)) c hc) i j) hrV), HL, (rW_k (fun c hc i j => Gg c ((by decide : ∀ c ∈ ([3, 71, 72] : List Nat), c ∉ ([44, 43, 47, 42, 85, 86, 11, 80, 4] : List Nat)) c hc) i j)  hrW), (rC_k (fun c hc i j => Gg c ((by decide : ∀ c ∈ ([5] : List Nat), c ∉ ([44, 43, 47, 42, 85, 86, 11, 80, 4] : List Nat)) c hc) i j)  hrC), (rS_k (fun c hc i j => Gg c ((by decide : ∀ c ∈ ([17, 82, 83] : List Nat), c ∉ ([44, 43, 47, 42, 85, 86, 11, 80, 4] : List Nat)) c hc) i j) (fun c hc i j => Mm c ((by decide : ∀ c ∈ ([74] : List Nat), c ∉ ([1, 54, 52, 50, 73, 11] : List Nat)) c hc) i j) hrS), (rQ_k (fun c hc i j => Gg c ((by decide : ∀ c ∈ ([1, 2, 41, 48, 50, 105, 106] : List Nat), c ∉ ([44, 43, 47, 42, 85, 86, 11, 80, 4] : List Nat)) c hc) i j)  hrQ), (rT_k (fun c hc i j => Gg c ((by decide : ∀ c ∈ ([12, 13, 14, 75] : List Nat), c ∉ ([44, 43, 47, 42, 85, 86, 11, 80, 4] : List Nat)) c hc) i j) (fun c hc i j => Mm c ((by decide : ∀ c ∈ ([6, 14, 71] : List Nat), c ∉ ([1, 54, 52, 50, 73, 11] : List Nat)) c hc) i j) hrT), (rX_k (fun c hc i j => Gg c ((by decide : ∀ c ∈ ([16, 72, 73] : List Nat), c ∉ ([44, 43, 47, 42, 85, 86, 11, 80, 4] : List Nat)) c hc) i j)  hrX), HH, (rJ_k (fun c hc i j => Gg c ((by decide : ∀ c ∈ ([20] : List Nat), c ∉ ([44, 43, 47, 42, 85, 86, 11, 80, 4] : List Nat)) c hc) i j)  hrJ), HN⟩
/-- the reference's laying of all parts of a file, its new mark, and how many there were -/
def lyA (m : vS) (f : Nat) : Nat → Nat → vS → vS
  | 0, _, q => q
  | k + 1, i, q => if 8 ≤ nI i then s3 q 57 f 0 (V_X12_markOf q (nI f)) else if m 63 f i = 0 then lyA m f k (i + 1) q else lyA m f k (i + 1) (S_X12_lays q (nI f) (nI i) (q 67 f i))
def lyC (m : vS) (f : Nat) : Nat → Nat → Int32
  | 0, _ => 0
  | k + 1, i => if 8 ≤ nI i then 0 else if m 63 f i = 0 then lyC m f k (i + 1) else 1 + lyC m f k (i + 1)
theorem lyS {m q9 : vS} {x u z x9 : Int32} {f : Nat} {K : Nat → Int32 → vS → vS} : ∀ (k i : Nat) (c : Int32) (q : vS), i + k = 9 → i ≤ 8 → SL_X12_leave_173 m x u z f x9 q9 K k i c q = K (f + 1) (c + lyC m f k i) (lyA m f k i q) := by
  intro k
  induction k with
  | zero => intro i c q hh hi; exfalso; omega
  | succ k ih =>
    intro i c q hh hi
    unfold SL_X12_leave_173 lyC lyA
    rw [show (8 : Int32) = nI 8 from rfl]
    by_cases d : 8 ≤ i
    · have d' := pLe (by omega) (by omega) d
      rw [if_pos d', if_pos d', if_pos d', Int32.add_zero]
    · have d' := nLe (by omega) (by omega) d
      rw [if_neg d', if_neg d', if_neg d']
      by_cases e : m 63 f i = 0
      · rw [if_pos e, if_pos e, if_pos e]; exact ih _ _ _ (by omega) (by omega)
      · rw [if_neg e, if_neg e, if_neg e, ih _ _ _ (by omega) (by omega), Int32.add_assoc]
theorem lyV {m q9 : vS} {x u z x9 : Int32} {f : Nat} {K : Nat → Int32 → vS → Int32} : ∀ (k i : Nat) (c : Int32) (q : vS), i + k = 9 → i ≤ 8 → VL_X12_leave_173 m x u z f x9 q9 K k i c q = K (f + 1) (c + lyC m f k i) (lyA m f k i q) := by
  intro k
  induction k with
  | zero => intro i c q hh hi; exfalso; omega
  | succ k ih =>
    intro i c q hh hi
    unfold VL_X12_leave_173 lyC lyA
    rw [show (8 : Int32) = nI 8 from rfl]
    by_cases d : 8 ≤ i
    · have d' := pLe (by omega) (by omega) d
      rw [if_pos d', if_pos d', if_pos d', Int32.add_zero]
    · have d' := nLe (by omega) (by omega) d
      rw [if_neg d', if_neg d', if_neg d']
      by_cases e : m 63 f i = 0
      · rw [if_pos e, if_pos e, if_pos e]; exact ih _ _ _ (by omega) (by omega)
      · rw [if_neg e, if_neg e, if_neg e, ih _ _ _ (by omega) (by omega), Int32.add_assoc]
theorem st_seal {n f p : Nat} {s s' : vS} (h : vInv n s s') (h11 : (s 11 0 0).toInt ≤ 512) (hf : (f : Int) < (s 2 0 0).toInt) (hp : p < 8) (h61 : s 61 f 0 = s 42 (s 50 f 0).toNatClampNeg 0) (h106 : s 106 f p ≠ 0) : vInv (n + 1) (S_X4_sealPart s f p (s 11 0 0)) (S_X12_lays s' (nI f) (nI p) (s' 67 f p)) := by
  have e56 := vE_ h (a := 51) (b := 56) (by decide) f 0
  have r := rPs h h106
  have b := m63b h (f := f) (p := p)
  have F : s 62 f 0 = pMix (pMix 4 (nI f)) (s 51 f 0) ∧ (s 2 0 0).toInt ≤ 20 := by
    obtain ⟨-, -, -, -, -, -, -, ⟨-, f2, -, f4, -⟩, -⟩ := h
    exact ⟨(f4 _ hf).2.2.1, f2⟩
  have ef : (nI f).toNatClampNeg = f := nI_clamp (by omega)
  have ep : (nI p).toNatClampNeg = p := nI_clamp (by omega)
  obtain ⟨s1, s2, s3', s4, s5, s6, s7, s8, s9⟩ := seal_r (q := s) (f := f) (p := p) (a := s 11 0 0)
  obtain ⟨l1, l2, l3, l4⟩ := lays_r (q := s') (x := nI f) (y := nI p) (v := s' 67 f p)
  rw [ef, ep] at l1 l2 l3 l4
  rw [e56] at l2 l3
  refine st_part h h11 hf hp h61 (fun c i j hc => seal_o hc) (fun c i j hc => lays_o (by rw [ef, ep]; exact hc)) ?_ ?_ ?_ ?_ ?_ ?_ ?_ ?_ ?_ ?_ ?_ (fun z => absurd z h106) ?_
  · rw [s9]; exact h106
  · rw [s7, l4]; exact r.2.2.1
  · rw [s7]; exact r.2.2.2.1
  · rw [s1]
  · rw [l2]
  · rw [s6, l1]; exact r.2.2.2.2.2.1
  · rw [s5, l3, F.1, r.2.2.2.2.2.1, r.2.2.2.2.2.2.2.2.2.1]
  · rw [s4, r.2.2.2.2.2.2.2.2.2.1]
  · rw [s2]
  · rw [s8]; exact r.2.2.2.2.2.2.2.2.2.1
  · rw [s3']
  · rw [l4]; omega
theorem sealL {g0 m0 : vS} {f : Nat} {z : Int32} (hz : z.toInt ≤ 512) (h63 : ∀ j, g0 106 f j = 0 ↔ m0 63 f j = 0) : ∀ (k i N : Nat) (c : Int32) (s s' : vS), i + k = 9 → i ≤ 8 → vInv N s s' → (f : Int) < (s 2 0 0).toInt → s 61 f 0 = s 42 (s 50 f 0).toNatClampNeg 0 → s 11 0 0 = z → (∀ j, s 106 f j = g0 106 f j) →
    VL_X4_writeAllAnew_8 g0 f z k i c s = c + lyC m0 f k i ∧ vInv (N + k) (SL_X4_writeAllAnew_8 g0 f z k i c s) (lyA m0 f k i s') ∧ (∀ c', c' ∉ ([52, 57, 58, 60, 64, 65] : List Nat) → ∀ a b, SL_X4_writeAllAnew_8 g0 f z k i c s c' a b = s c' a b) ∧ (∀ c', c' ∉ ([57, 61, 65, 67] : List Nat) → ∀ a b, lyA m0 f k i s' c' a b = s' c' a b) := by
  intro k
  induction k with
  | zero => intro i N c s s' hh hi; exfalso; omega
  | succ k ih =>
    intro i N c s s' hh hi hI hf h61 h11 h106
    have f20 : (s 2 0 0).toInt ≤ 20 := by
      obtain ⟨-, -, -, -, -, -, -, ⟨-, f2, -⟩, -⟩ := hI
      exact f2
    have ef : (nI f).toNatClampNeg = f := nI_clamp (by omega)
    have eft : (nI f).toInt = (f : Int) := nI_toInt (by omega)
    unfold VL_X4_writeAllAnew_8 SL_X4_writeAllAnew_8 lyC lyA
    rw [show (8 : Int32) = nI 8 from rfl]
    by_cases d : 8 ≤ i
    · have d' := pLe (by omega) (by omega) d
      rw [if_pos d', if_pos d', if_pos d', if_pos d', Int32.add_zero]
      have q := st_mark hI (x := nI f) (by rw [eft]; omega) (by rw [eft]; exact hf)
      rw [ef] at q
      exact ⟨rfl, vInv_le (by omega) q, fun c' hc a b => s3_k (fun e => hc (by rw [e]; decide)), fun c' hc a b => s3_k (fun e => hc (by rw [e]; decide))⟩
    · have d' := nLe (by omega) (by omega) d
      rw [if_neg d', if_neg d', if_neg d', if_neg d']
      by_cases e : g0 106 f i = 0
      · have e2 := (h63 i).mp e
        rw [if_pos e, if_pos e, if_pos e2, if_pos e2]
        obtain ⟨r1, r2, r3, r4⟩ := ih (i + 1) N c s s' (by omega) (by omega) hI hf h61 h11 h106
        exact ⟨r1, vInv_le (by omega) r2, r3, r4⟩
      · have e2 : ¬ m0 63 f i = 0 := fun y => e ((h63 i).mpr y)
        rw [if_neg e, if_neg e, if_neg e2, if_neg e2]
        have st := st_seal hI (by rw [h11]; exact hz) hf (p := i) (by omega) h61 (by rw [h106]; exact e)
        rw [h11] at st
        have so : ∀ c', c' ∉ ([52, 57, 58, 60, 64, 65] : List Nat) → ∀ a b, S_X4_sealPart s f i z c' a b = s c' a b := fun c' hc a b => by
          have q : ∀ k ∈ ([52, 57, 58, 60, 64, 65] : List Nat), c' ≠ k := fun k hk e => hc (e ▸ hk)
          unfold S_X4_sealPart
          rw [s3_k (q 58 (by decide)), s3_k (q 64 (by decide)), s3_k (q 60 (by decide)), s3_k (q 65 (by decide)), s3_k (q 57 (by decide))]
        have lo : ∀ c', c' ∉ ([57, 61, 65, 67] : List Nat) → ∀ a b, S_X12_lays s' (nI f) (nI i) (s' 67 f i) c' a b = s' c' a b := fun c' hc a b => by
          have q : ∀ k ∈ ([57, 61, 65, 67] : List Nat), c' ≠ k := fun k hk e => hc (e ▸ hk)
          unfold S_X12_lays
          rw [s3_k (q 65 (by decide)), s3_k (q 61 (by decide)), s3_k (q 67 (by decide))]
        obtain ⟨r1, r2, r3, r4⟩ := ih (i + 1) (N + 1) (c + 1) (S_X4_sealPart s f i z) (S_X12_lays s' (nI f) (nI i) (s' 67 f i)) (by omega) (by omega) st (by rw [so 2 (by decide)]; exact hf) (by rw [so 61 (by decide), so 50 (by decide), so 42 (by decide)]; exact h61) (by rw [so 11 (by decide)]; exact h11) (fun j => (so 106 (by decide) f j).trans (h106 j))
        refine ⟨by rw [r1, Int32.add_assoc], vInv_le (by omega) r2, fun c' hc a b => (r3 c' hc a b).trans (so c' hc a b), fun c' hc a b => (r4 c' hc a b).trans (lo c' hc a b)⟩
theorem leaveL {n : Nat} {G M m : vS} {X : Nat} {x u z : Int32} (h : vInv n G M) (hn : n ≤ 1000) (h11 : (G 11 0 0).toInt ≤ 512) (hm : ∀ c ∈ ([4, 55, 68, 63] : List Nat), ∀ i j, m c i j = M c i j) (hz : z ≠ 0) (hx : x = nI X) (hX : (X : Int) < (G 1 0 0).toInt) : ∀ (k i : Nat) (c : Int32) (q q' : vS), i + k = 21 → i ≤ 20 → vInv (n + 10 * i) q q' → (∀ d, d ∉ ([52, 57, 58, 60, 64, 65, 51, 61, 62] : List Nat) → ∀ a b, q d a b = G d a b) → (∀ d, d ∉ ([57, 61, 65, 67, 56, 59, 13] : List Nat) → ∀ a b, q' d a b = M d a b) → (∀ f, (q 51 f 0).toInt ≤ (G 51 f 0).toInt + (i : Int)) → (∀ f, (M 13 f 0).toNatClampNeg ≤ (q' 13 f 0).toNatClampNeg) →
    VL_X11_turnFilesOf_4 G X k i c q = VL_X12_leave_118 m x u z k i c q' ∧ vInv (n + 200) (SL_X11_turnFilesOf_4 G X k i c q) (SL_X12_leave_118 m x u z k i c q') ∧ (∀ d, d ∉ ([52, 57, 58, 60, 64, 65, 51, 61, 62] : List Nat) → ∀ a b, SL_X11_turnFilesOf_4 G X k i c q d a b = G d a b) ∧ (∀ d, d ∉ ([57, 61, 65, 67, 56, 59, 13] : List Nat) → ∀ a b, SL_X12_leave_118 m x u z k i c q' d a b = M d a b) ∧ (∀ f, (SL_X11_turnFilesOf_4 G X k i c q 51 f 0).toInt ≤ (G 51 f 0).toInt + 20) ∧ (∀ f, (M 13 f 0).toNatClampNeg ≤ (SL_X12_leave_118 m x u z k i c q' 13 f 0).toNatClampNeg) := by
  have e4 := vE_ h (a := 2) (b := 4) (by decide) 0 0
  have e55 := vE_ h (a := 50) (b := 55) (by decide)
  have e68 := vE_ h (a := 53) (b := 68) (by decide)
  have m4 := hm 4 (by decide); have m55 := hm 55 (by decide); have m68 := hm 68 (by decide); have m63 := hm 63 (by decide)
  have F : 0 ≤ (G 2 0 0).toInt ∧ (G 2 0 0).toInt ≤ 20 ∧ (∀ f : Nat, G 105 f 0 = 0 ↔ (G 2 0 0).toInt ≤ (f : Int)) := by
    obtain ⟨-, -, -, -, -, -, -, hF, -⟩ := h
    exact ⟨hF.1, hF.2.1, hF.2.2.1⟩
  have hG := h.2.2.2.2.1
  have g5 := hG.2.1
  subst hx
  intro k
  induction k with
  | zero => intro i c q q' hh hi; exfalso; omega
  | succ k ih =>
    intro i c q q' hh hi hI hg hq b51 b13
    have ei : (nI i).toInt = (i : Int) := nI_toInt (by omega)
    have ec : (nI i).toNatClampNeg = i := nI_clamp (by omega)
    unfold VL_X11_turnFilesOf_4 SL_X11_turnFilesOf_4 VL_X12_leave_118 SL_X12_leave_118
    rw [if_neg hz, if_neg hz, m4, e4]
    by_cases d : G 2 0 0 ≤ nI i
    · rw [if_pos d, if_pos d, if_pos d, if_pos d]
      exact ⟨rfl, vInv_le (by omega) hI, hg, hq, fun f => by have := b51 f; omega, b13⟩
    · rw [if_neg d, if_neg d, if_neg d, if_neg d]
      rw [i32_le, ei] at d
      have d2 : ¬ 20 ≤ nI i := by rw [i32_le, ei, show (20 : Int32).toInt = 20 from by decide]; omega
      have d3 : ¬ G 105 i 0 = 0 := fun q => by have := (F.2.2 i).mp q; omega
      have gr := grpE h (f := i) (by omega)
      have tg := tnI gr.1
      have eg := q_nI gr.1
      rw [if_neg d2, if_neg d2, if_neg d3, if_neg d3, (hG.2.2.2.1 _ (by omega)).1, (hG.2.2.2.1 X hX).1, m55, e55, m68, e68]
      have skip : ∀ c, _ := fun c => ih (i + 1) c q q' (by omega) (by omega) (vInv_le (by omega) hI) hg hq (fun f => by have := b51 f; omega) b13
      by_cases t : (G 50 i 0).toNatClampNeg = X
      · have t1 : nI (G 50 i 0).toNatClampNeg = nI X := congrArg nI t
        have t2 : G 50 i 0 = nI X := by rw [← t, eg]
        rw [if_pos t1, if_pos t1, if_pos t2, if_pos t2]
        by_cases w : G 53 i 0 = 0
        · rw [if_pos w, if_pos w, if_pos w, if_pos w]
          have q2 : (i : Int) < (q 2 0 0).toInt := by rw [hg 2 (by decide)]; omega
          have es := spoE hI (x := nI i) (by rw [ei]; omega) (by rw [ei]; exact q2)
          rw [ec] at es
          rw [es]
          by_cases y : V_X4_isSpoiled q i = 0
          · rw [if_pos y, if_pos y, if_pos y, if_pos y, lyV _ _ _ _ (by omega) (by omega), lyS _ _ _ _ (by omega) (by omega)]
            have T := turnsE hI (by omega) (x := nI i) (by rw [ei]; omega) (by rw [ei]; exact q2)
            have ST := st_turn hI (by omega) (x := nI i) (by rw [ei]; omega) (by rw [ei]; exact q2)
            rw [ec] at T ST
            obtain ⟨t1, t2, t3, t4, t5, t6, t7, t8, t9⟩ := T
            have tk : ∀ c', c' ∉ ([51, 61, 62] : List Nat) → ∀ a b, S_X4_turnKey q i c' a b = q c' a b := fun c' hc a b => turnKey_k hc
            have n51 := (nB hI).1 i
            have h63 : ∀ j, q 106 i j = 0 ↔ m 63 i j = 0 := fun j => by
              have e : m 63 i j = q' 63 i j := (m63 i j).trans (hq 63 (by decide) i j).symm
              rw [e]
              have hP := hI.2.2.2.2.2.2.2.2.2.1
              rcases hP i j with ⟨p1, p2⟩ | ⟨p0, p1, p2, p3, -⟩
              · exact ⟨fun _ => p2, fun _ => p1⟩
              · exact ⟨fun z => absurd z p1, fun z => by rw [p2, z] at p3; exact absurd p3 (by decide)⟩
            have q11 : q 11 0 0 = G 11 0 0 := hg 11 (by decide) 0 0
            obtain ⟨r1, r2, r3, r4⟩ := sealL (g0 := q) (m0 := m) (f := i) (z := q 11 0 0) (by rw [q11]; exact h11) h63 (8 + 1) 0 (n + 10 * i + 1) 0 (S_X4_turnKey q i) (S_X12_turns q' (nI i)) (by omega) (by omega) ST (by rw [tk 2 (by decide)]; exact q2) (by
              rw [tk 50 (by decide), tk 42 (by decide)]
              exact (s3_k (by decide)).trans s3_s) (tk 11 (by decide) 0 0) (fun j => tk 106 (by decide) i j)
            have ev : V_X4_writeAllAnew q i (V_X2_moment q) = lyC m i (8 + 1) 0 := r1.trans (Int32.zero_add _)
            have eS : S_X4_writeAllAnew q i (V_X2_moment q) = SL_X4_writeAllAnew_8 q i (q 11 0 0) (8 + 1) 0 0 (S_X4_turnKey q i) := rfl
            rw [ev, eS]
            refine ih (i + 1) _ _ _ (by omega) (by omega) (vInv_le (by omega) r2) (fun c' hc a b => ?_) (fun c' hc a b => ?_) (fun f => ?_) (fun f => ?_)
            · exact ((r3 c' (fun e => hc ((by decide : ∀ c ∈ ([52, 57, 58, 60, 64, 65] : List Nat), c ∈ ([52, 57, 58, 60, 64, 65, 51, 61, 62] : List Nat)) c' e)) a b).trans (tk c' (fun e => hc ((by decide : ∀ c ∈ ([51, 61, 62] : List Nat), c ∈ ([52, 57, 58, 60, 64, 65, 51, 61, 62] : List Nat)) c' e)) a b)).trans (hg c' hc a b)
            · exact ((r4 c' (fun e => hc ((by decide : ∀ c ∈ ([57, 61, 65, 67] : List Nat), c ∈ ([57, 61, 65, 67, 56, 59, 13] : List Nat)) c' e)) a b).trans (t1 c' (fun e => hc ((by decide : ∀ c ∈ ([56, 59, 13] : List Nat), c ∈ ([57, 61, 65, 67, 56, 59, 13] : List Nat)) c' e)) a b)).trans (hq c' hc a b)
            · rw [r3 51 (by decide)]
              have a := b51 f
              by_cases e : f = i
              · subst e
                rw [show S_X4_turnKey q f 51 f 0 = q 51 f 0 + 1 from (s3_k (by decide)).trans ((s3_k (by decide)).trans s3_s), q_add1 (by omega)]
                omega
              · have qq : ∀ (Q : vS) k v, s3 Q k i 0 v 51 f 0 = Q 51 f 0 := fun Q k v => s3_i e
                unfold S_X4_turnKey
                rw [qq, qq, qq]; omega
            · rw [r4 13 (by decide)]
              refine Nat.le_trans (b13 f) ?_
              by_cases e : f = i
              · subst e; exact t9
              · rw [t2 _ _ _ e]; exact Nat.le_refl _
          · rw [if_neg y, if_neg y, if_neg y, if_neg y]
            exact skip c
        · rw [if_neg w, if_neg w, if_neg w, if_neg w]
          exact skip c
      · have t1 : ¬ nI (G 50 i 0).toNatClampNeg = nI X := nEq (by omega) (by omega) t
        have t2 : ¬ G 50 i 0 = nI X := fun e => t (by rw [e, nI_clamp (by omega)])
        rw [if_neg t1, if_neg t1, if_neg t2, if_neg t2]
        exact skip c
theorem leave0 {m : vS} {x u z : Int32} (hz : z = 0) : ∀ (c : Int32) (q : vS), SL_X12_leave_118 m x u z (20 + 1) 0 c q = q ∧ VL_X12_leave_118 m x u z (20 + 1) 0 c q = c := fun c q => ⟨if_pos hz, if_pos hz⟩
theorem pz_leave : PZ_leave vInv := by
  intro n g m h hn x u zz
  have e52 := vE_ h (a := 44) (b := 52) (by decide)
  have e48 := vE_ h (a := 40) (b := 48) (by decide)
  have e50 := vE_ h (a := 42) (b := 50) (by decide)
  have e11 := eL h
  have bT := bE h (by omega)
  have B := nB h
  rcases nG h x with ⟨a1, a2, a3, a4, a5, a6, a7⟩ | ⟨a1, a2, -⟩
  · by_cases b : V_X3_hasMember g x.toNatClampNeg u = 0
    · -- nobody's member
      have hG : S_X11_leave g x u zz = g := by simp only [S_X11_leave, a1, b, ↓reduceIte]
      have hX : X_X11_leave g x u zz = 1 := by simp only [X_X11_leave, a1, b, ↓reduceIte]
      rw [hG, hX]
      refine pz_ro h (k := 1) ?_ rfl (fun q => absurd q (by decide))
      rcases nU h u with ⟨b1, b2, b3, b4, b5, b6, b7⟩ | ⟨b1, b2, -⟩
      · rw [hasM b3 b5] at b
        have c : m 52 x.toNatClampNeg u.toNatClampNeg = 0 := by
          rw [e52]
          by_cases c : g 44 x.toNatClampNeg u.toNatClampNeg = 0
          · exact c
          · rw [if_neg c] at b; exact absurd b (by decide)
        simp only [S_X12_leave, a2, b2, c, ↓reduceIte, d10, S_X12_isWrong]
      · simp only [S_X12_leave, a2, b2, ↓reduceIte, d10, S_X12_isWrong]
    · -- a member: then a user
      have hu : 0 ≤ u.toInt ∧ u.toNatClampNeg < 6 ∧ g 44 x.toNatClampNeg u.toNatClampNeg ≠ 0 ∧ u.toInt < (g 0 0 0).toInt := by
        unfold V_X3_hasMember at b
        by_cases c1 : u < 0
        · rw [if_pos c1] at b; exact absurd rfl b
        · rw [if_neg c1] at b
          by_cases c2 : 6 ≤ u
          · rw [if_pos c2] at b; exact absurd rfl b
          · rw [if_neg c2] at b
            rw [i32_lt, i00] at c1
            rw [i32_le, show (6 : Int32).toInt = 6 from by decide] at c2
            have t := tnI (x := u) (by omega)
            have c3 : g 44 x.toNatClampNeg u.toNatClampNeg ≠ 0 := fun c => by rw [if_pos c] at b; exact absurd rfl b
            refine ⟨by omega, by omega, c3, ?_⟩
            rcases h.2.2.2.2.1.2.2.2.2.2.1 x.toNatClampNeg u.toNatClampNeg with y | y
            · exact absurd y c3
            · omega
      obtain ⟨u0, u6, u44, ug⟩ := hu
      have tu := tnI u0
      have eu := q_nI u0
      have b2 : V_X12_isUser m u = 1 := by
        rcases nU h u with ⟨-, b2, -⟩ | ⟨-, -, b3⟩
        · exact b2
        · exact absurd ⟨u0, ug⟩ b3
      have c : ¬ m 52 x.toNatClampNeg u.toNatClampNeg = 0 := by rw [e52]; exact u44
      by_cases d : u = g 40 x.toNatClampNeg 0
      · have d2 : m 48 x.toNatClampNeg 0 = u := by rw [e48, ← d]
        have hG : S_X11_leave g x u zz = g := by simp only [S_X11_leave, a1, b, if_pos d, ↓reduceIte]
        have hX : X_X11_leave g x u zz = 2 := by simp only [X_X11_leave, a1, b, if_pos d, ↓reduceIte]
        rw [hG, hX]
        exact pz_ro h (k := 2) (by simp only [S_X12_leave, a2, b2, c, d2, ↓reduceIte, d10, S_X12_isWrong]) rfl (fun q => absurd q (by decide))
      · have d2 : ¬ m 48 x.toNatClampNeg 0 = u := by rw [e48]; exact fun e => d e.symm
        rcases roomE h (by omega) with ⟨f1, f2, f3, f4⟩ | ⟨f1, f2⟩
        · have g40 := (h.2.2.2.2.1.2.2.2.1 x.toNatClampNeg (by omega)).2.2.2.2
          have hO : (g 40 x.toNatClampNeg 0).toNatClampNeg ≠ u.toNatClampNeg := fun e => d (by rw [← eu, ← e, q_nI g40])
          have hI := vInv_leave (v := pMix (200 + x) u) h hn (by omega) a5 u6 u44 hO rfl rfl f3 f4
          generalize hGd : (s3 (s3 (s3 (s3 (s3 (s3 (s3 (s3 (s3 g 44 x.toNatClampNeg u.toNatClampNeg 0) 43 x.toNatClampNeg 0 (g 43 x.toNatClampNeg 0 - 1)) 47 x.toNatClampNeg u.toNatClampNeg (g 42 x.toNatClampNeg 0 + 1)) 42 x.toNatClampNeg 0 (g 42 x.toNatClampNeg 0 + 1)) 85 (g 11 0 0).toNatClampNeg 0 (nI (6 * x.toNatClampNeg + u.toNatClampNeg))) 86 (g 11 0 0).toNatClampNeg 0 0) 11 0 0 (g 11 0 0 + 1)) 80 (g 4 0 0).toNatClampNeg 0 (pMix (200 + x) u)) 4 0 0 (g 4 0 0 + 1)) = G at hI
          generalize hMd : (s3 (s3 (s3 (s3 (s3 (s3 m 1 0 0 0) 54 x.toNatClampNeg u.toNatClampNeg (g 42 x.toNatClampNeg 0)) 52 x.toNatClampNeg u.toNatClampNeg 0) 50 x.toNatClampNeg 0 (g 42 x.toNatClampNeg 0 + 1)) 73 (g 4 0 0).toNatClampNeg 0 (pMix (200 + x) u)) 11 0 0 (g 4 0 0 + 1)) = M at hI
          have eG : S_X5_append (S_X2_noteLeft (S_X3_letGo g x.toNatClampNeg u) x u) (pMix (200 + x) u) = G := by
            rw [← hGd]
            unfold S_X2_noteLeft
            rw [letE u0 u6, noteE (E := g 11 0 0) ((s3_k (by decide)).trans ((s3_k (by decide)).trans ((s3_k (by decide)).trans (s3_k (by decide))))) bT.1 (by omega), evN a3 u0, appE2 (L := g 4 0 0) ((s3_k (by decide)).trans ((s3_k (by decide)).trans ((s3_k (by decide)).trans ((s3_k (by decide)).trans ((s3_k (by decide)).trans ((s3_k (by decide)).trans (s3_k (by decide)))))))) f3 f4]
          have eM : S_X12_adds (s3 (s3 (s3 (S_X12_isWrong m 0) 54 x.toNatClampNeg u.toNatClampNeg (m 50 x.toNatClampNeg 0)) 52 x.toNatClampNeg u.toNatClampNeg 0) 50 x.toNatClampNeg 0 (m 50 x.toNatClampNeg 0 + 1)) (pMix (200 + x) u) = M := by
            rw [← hMd, e50]
            exact addsE (L := g 4 0 0) ((show S_X12_isWrong m 0 = s3 m 1 0 0 0 from rfl) ▸ (by rw [s3_k (by decide), s3_k (by decide), s3_k (by decide)]; exact (s3_k (by decide)).trans e11))
          have Gf : ∀ c ∈ ([0, 1, 9, 14, 51] : List Nat), ∀ i j, G c i j = g c i j := fun c hc i j => by
            rw [← hGd, s3_k (nm hc (by decide)), s3_k (nm hc (by decide)), s3_k (nm hc (by decide)), s3_k (nm hc (by decide)), s3_k (nm hc (by decide)), s3_k (nm hc (by decide)), s3_k (nm hc (by decide)), s3_k (nm hc (by decide)), s3_k (nm hc (by decide))]
          have G11 : (G 11 0 0).toInt ≤ (g 11 0 0).toInt + 1 := by
            rw [← hGd, s3_k (by decide), s3_k (by decide), s3_s, q_add1 (by omega)]; omega
          have Mf : ∀ c ∈ ([4, 55, 68, 63, 13, 14] : List Nat), ∀ i j, M c i j = m c i j := fun c hc i j => by
            rw [← hMd, s3_k (nm hc (by decide)), s3_k (nm hc (by decide)), s3_k (nm hc (by decide)), s3_k (nm hc (by decide)), s3_k (nm hc (by decide)), s3_k (nm hc (by decide))]
          have M1 : M 1 0 0 = 0 := by
            rw [← hMd, s3_k (by decide), s3_k (by decide), s3_k (by decide), s3_k (by decide), s3_k (by decide), s3_s]
          by_cases z : zz = 0
          · have hG : S_X11_leave g x u zz = G := by simp only [S_X11_leave, a1, b, d, f1, z, ↓reduceIte]; exact eG
            have hX : X_X11_leave g x u zz = 0 := by simp only [X_X11_leave, a1, b, d, f1, ↓reduceIte]
            have hS : S_X12_leave m x u zz = M := by
              refine Eq.trans ?_ ((leave0 (m := m) (x := x) (u := u) z 0 M).1)
              simp only [S_X12_leave, a2, b2, c, d2, f2, ↓reduceIte, d10, eM]
            have hV : V_X11_leave g x u zz = V_X12_leave m x u zz := by
              have v1 : V_X11_leave g x u zz = 0 := by simp only [V_X11_leave, a1, b, d, f1, z, ↓reduceIte]
              have v2 : V_X12_leave m x u zz = 0 := by
                refine Eq.trans ?_ ((leave0 (m := m) (x := x) (u := u) z 0 M).2)
                simp only [V_X12_leave, a2, b2, c, d2, f2, ↓reduceIte, d10, eM]
              rw [v1, v2]
            rw [hX, hV, hG, hS]
            exact pz_st (k := 0) hI M1 rfl (fun _ => rfl) (p_ph (Gf 14 (by decide) 0 0)) (p_pb (fun i j => Mf 13 (by decide) i j)) (p_pw (fun i j => Mf 14 (by decide) i j))
          · obtain ⟨r1, r2, r3, r4, r5, r6⟩ := leaveL (m := m) (u := u) (z := zz) hI (by omega) (by have := B.2.2; have q := h.2.1.1; have q2 := G11; have q3 := bE h (by omega); have q9 : 0 ≤ (g 9 0 0).toInt := (by obtain ⟨-, -, -, -, -, -, -, -, -, -, -, -, -, -, -, -, -, -, -, -, hN⟩ := h; exact hN.2.2.1); omega) (fun c hc i j => (Mf c ((by decide : ∀ c ∈ ([4, 55, 68, 63] : List Nat), c ∈ ([4, 55, 68, 63, 13, 14] : List Nat)) c hc) i j).symm) z a7.symm (by rw [Gf 1 (by decide)]; omega) 21 0 0 G M (by omega) (by omega) hI (fun _ _ _ _ => rfl) (fun _ _ _ _ => rfl) (fun f => by omega) (fun f => Nat.le_refl _)
            have hG : S_X11_leave g x u zz = SL_X11_turnFilesOf_4 G x.toNatClampNeg 21 0 0 G := by simp only [S_X11_leave, a1, b, d, f1, z, eG, ↓reduceIte]; rfl
            have hX : X_X11_leave g x u zz = 0 := by simp only [X_X11_leave, a1, b, d, f1, ↓reduceIte]
            have hS : S_X12_leave m x u zz = SL_X12_leave_118 m x u zz 21 0 0 M := by simp only [S_X12_leave, a2, b2, c, d2, f2, eM, ↓reduceIte, d10]
            have hV : V_X11_leave g x u zz = V_X12_leave m x u zz := by
              have v1 : V_X11_leave g x u zz = VL_X11_turnFilesOf_4 G x.toNatClampNeg 21 0 0 G := by simp only [V_X11_leave, a1, b, d, f1, z, eG, ↓reduceIte]; rfl
              have v2 : V_X12_leave m x u zz = VL_X12_leave_118 m x u zz 21 0 0 M := by simp only [V_X12_leave, a2, b2, c, d2, f2, eM, ↓reduceIte, d10]
              rw [v1, v2, r1]
            rw [hX, hV, hG, hS]
            refine pz_st (k := 0) (vInv_fin r2 (fun f => ?_) (fun f p => ?_) ?_) ((r4 1 (by decide) 0 0).trans M1) rfl (fun _ => rfl) (p_ph ((r3 14 (by decide) 0 0).trans (Gf 14 (by decide) 0 0))) (vPb_mono (fun f => ?_)) (p_pw (fun i j => (r4 14 (by decide) i j).trans (Mf 14 (by decide) i j)))
            · have a := r5 f; rw [Gf 51 (by decide)] at a; have b := B.1 f; omega
            · rw [r4 63 (by decide), Mf 63 (by decide)]; have b := B.2.1 f p; omega
            · rw [r3 9 (by decide), r3 11 (by decide), r3 0 (by decide), Gf 9 (by decide), Gf 0 (by decide)]; have := B.2.2; omega
            · have a := r6 f; rw [Mf 13 (by decide)] at a; exact a
        · have hG : S_X11_leave g x u zz = g := by simp only [S_X11_leave, a1, b, d, f1, n30, ↓reduceIte]
          have hX : X_X11_leave g x u zz = 3 := by simp only [X_X11_leave, a1, b, d, f1, n30, ↓reduceIte]
          rw [hG, hX]
          exact pz_ro h (k := 3) (by simp only [S_X12_leave, a2, b2, c, d2, f2, ↓reduceIte, d10, S_X12_isWrong]) rfl (fun q => absurd q (by decide))
  · have hG : S_X11_leave g x u zz = g := by simp only [S_X11_leave, a1, n10, ↓reduceIte]
    have hX : X_X11_leave g x u zz = 1 := by simp only [X_X11_leave, a1, n10, ↓reduceIte]
    rw [hG, hX]
    exact pz_ro h (k := 1) (by simp only [S_X12_leave, a2, ↓reduceIte, S_X12_isWrong]) rfl (fun q => absurd q (by decide))
