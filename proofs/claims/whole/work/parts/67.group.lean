theorem Z_group_o {g : vS} {w : Nat} {a b x : Int32} {c i j : Nat} (h : i ≠ w) : Z_group g w a b x c i j = g c i j := by
  unfold Z_group
  rw [s3_i h, s3_i h, s3_i h, s3_i h, s3_i h, s2_i h, s2_i h, s2_i h, s2_i h, s2_i h, s2_i h, s2_i h, s2_i h]
theorem Z_group_c {g : vS} {w : Nat} {a b x : Int32} {c i j : Nat} (h : c ∉ ([40, 41, 42, 43, 44, 46, 47, 48, 104] : List Nat)) : Z_group g w a b x c i j = g c i j := by
  have q : ∀ k ∈ ([40, 41, 42, 43, 44, 46, 47, 48, 104] : List Nat), c ≠ k := fun k hk e => h (e ▸ hk)
  unfold Z_group
  rw [s3_k (q 104 (by decide)), s3_k (q 46 (by decide)), s3_k (q 41 (by decide)), s3_k (q 40 (by decide)), s3_k (q 48 (by decide)), s2_k (q 48 (by decide)), s2_k (q 47 (by decide)), s2_k (q 46 (by decide)), s2_k (q 44 (by decide)), s2_k (q 43 (by decide)), s2_k (q 42 (by decide)), s2_k (q 41 (by decide)), s2_k (q 40 (by decide))]
theorem Z_group_z {g : vS} {w : Nat} {a b x : Int32} {j : Nat} : Z_group g w a b x 42 w j = 0 ∧ Z_group g w a b x 43 w j = 0 ∧ Z_group g w a b x 44 w j = 0 ∧ Z_group g w a b x 47 w j = 0 := by
  refine ⟨?_, ?_, ?_, ?_⟩ <;> simp [Z_group, s3, s2]
theorem Z_group_v {g : vS} {w : Nat} {a b x : Int32} : Z_group g w a b x 48 w 0 = a ∧ Z_group g w a b x 46 w 0 = pMix 2 a ∧ Z_group g w a b x 104 w 0 = 1 := by
  refine ⟨?_, ?_, ?_⟩ <;> simp [Z_group, s3]
theorem Z_group_r {g : vS} {w : Nat} {a b x : Int32} {j : Nat} : Z_group g w a b x 40 w j = (if j = 0 then b else 0) ∧ Z_group g w a b x 41 w j = (if j = 0 then x else 0) := by
  refine ⟨?_, ?_⟩ <;> simp [Z_group, s3, s2]
theorem vInv_group {n : Nat} {g m : vS} {u x : Int32} {W U T : Nat} (h : vInv n g m) (hn : n < 512) (hW : (g 1 0 0).toNatClampNeg = W) (hc : (g 1 0 0).toInt < 5) (hUe : u.toNatClampNeg = U) (hu0 : 0 ≤ u.toInt) (hU6 : U < 6) (hU : (U : Int) < (g 0 0 0).toInt) (hx : 1 ≤ x.toInt ∧ x.toInt ≤ 40) (hT : (g 11 0 0).toNatClampNeg = T) : vInv (n + 1) (s3 (s3 (s3 (s3 (s3 (s3 (Z_group g W (g 1 0 0) u x) 1 0 0 (g 1 0 0 + 1)) 44 W U 1) 43 W 0 1) 85 T 0 (nI (6 * W + U))) 86 T 0 1) 11 0 0 (g 11 0 0 + 1)) (s3 (s3 (s3 (s3 (s3 (s3 (s3 (s3 (s3 (s3 (s3 m 1 0 0 0) 48 W 0 u) 49 W 0 x) 54 W 0 (-1)) 54 W 1 (-1)) 54 W 2 (-1)) 54 W 3 (-1)) 54 W 4 (-1)) 54 W 5 (-1)) 52 W U 1) 3 0 0 (g 1 0 0 + 1)) := by
  have bT := bE h (by omega)
  obtain ⟨hE, hrU, hrUz, hrD, hrG, hrGz, hrK, hrF, hrFz, hrP, hrV, hrLg, hrW, hrC, hrS, hrQ, hrT, hrX, hrH, hrJ, hrN⟩ := h
  have tT := tnI bT.1
  rw [hT] at tT
  have eT : (g 11 0 0 + 1).toInt = (g 11 0 0).toInt + 1 := q_add1 (by omega)
  obtain ⟨g1, g2, g3, g4, g5, g6, g7⟩ := hrG
  have hw := tnI g1
  rw [hW] at hw
  have hxw : nI W = g 1 0 0 := by rw [← hW, q_nI g1]
  have e1 : (g 1 0 0 + 1).toInt = (g 1 0 0).toInt + 1 := q_add1 (by omega)
  have z := fun k => hrGz W k (by omega)
  have hFg : ∀ f : Nat, (f : Int) < (g 2 0 0).toInt → (g 50 f 0).toInt < (g 1 0 0).toInt := fun f hf => (hrF.2.2.2.1 f hf).2.2.2.1
  have hF0 : ∀ f : Nat, 0 ≤ (g 50 f 0).toInt := fun f => (hrF.2.2.2.2 f).1
  have n0 : (s3 (s3 (s3 (s3 (s3 (s3 (Z_group g W (g 1 0 0) u x) 1 0 0 (g 1 0 0 + 1)) 44 W U 1) 43 W 0 1) 85 T 0 (nI (6 * W + U))) 86 T 0 1) 11 0 0 (g 11 0 0 + 1)) 1 0 0 = g 1 0 0 + 1 := (s3_k (by decide)).trans ((s3_k (by decide)).trans ((s3_k (by decide)).trans ((s3_k (by decide)).trans ((s3_k (by decide)).trans s3_s))))
  have Gi : ∀ c i j, c ∉ ([1, 85, 86, 11] : List Nat) → i ≠ W → (s3 (s3 (s3 (s3 (s3 (s3 (Z_group g W (g 1 0 0) u x) 1 0 0 (g 1 0 0 + 1)) 44 W U 1) 43 W 0 1) 85 T 0 (nI (6 * W + U))) 86 T 0 1) 11 0 0 (g 11 0 0 + 1)) c i j = g c i j := fun c i j hc e => by
    have q : ∀ k ∈ ([1, 85, 86, 11] : List Nat), c ≠ k := fun k hk e => hc (e ▸ hk)
    rw [s3_k (q 11 (by decide)), s3_k (q 86 (by decide)), s3_k (q 85 (by decide)), s3_i e, s3_i e, s3_k (q 1 (by decide)), Z_group_o e]
  have Gw : ∀ c i j, c ∉ ([1, 43, 44, 85, 86, 11] : List Nat) → (s3 (s3 (s3 (s3 (s3 (s3 (Z_group g W (g 1 0 0) u x) 1 0 0 (g 1 0 0 + 1)) 44 W U 1) 43 W 0 1) 85 T 0 (nI (6 * W + U))) 86 T 0 1) 11 0 0 (g 11 0 0 + 1)) c i j = (Z_group g W (g 1 0 0) u x) c i j := fun c i j hc => by
    have q : ∀ k ∈ ([1, 43, 44, 85, 86, 11] : List Nat), c ≠ k := fun k hk e => hc (e ▸ hk)
    rw [s3_k (q 11 (by decide)), s3_k (q 86 (by decide)), s3_k (q 85 (by decide)), s3_k (q 43 (by decide)), s3_k (q 44 (by decide)), s3_k (q 1 (by decide))]
  have Gg : ∀ c, c ∉ ([1, 40, 41, 43, 44, 46, 47, 48, 104, 85, 86, 11] : List Nat) → ∀ i j, (s3 (s3 (s3 (s3 (s3 (s3 (Z_group g W (g 1 0 0) u x) 1 0 0 (g 1 0 0 + 1)) 44 W U 1) 43 W 0 1) 85 T 0 (nI (6 * W + U))) 86 T 0 1) 11 0 0 (g 11 0 0 + 1)) c i j = g c i j := fun c hc i j => by
    have q : ∀ k ∈ ([1, 40, 41, 43, 44, 46, 47, 48, 104, 85, 86, 11] : List Nat), c ≠ k := fun k hk e => hc (e ▸ hk)
    rw [Gw c i j (fun hh => by simp only [List.mem_cons, List.not_mem_nil, or_false] at hh hc; omega)]
    by_cases d : c = 42
    · subst d
      by_cases e : i = W
      · rw [e, Z_group_z.1, (z j).2.2.1]
      · exact Z_group_o e
    · exact Z_group_c (fun hh => by simp only [List.mem_cons, List.not_mem_nil, or_false] at hh hc; omega)
  have Mm : ∀ c, c ∉ ([1, 3, 48, 49, 52, 54] : List Nat) → ∀ i j, (s3 (s3 (s3 (s3 (s3 (s3 (s3 (s3 (s3 (s3 (s3 m 1 0 0 0) 48 W 0 u) 49 W 0 x) 54 W 0 (-1)) 54 W 1 (-1)) 54 W 2 (-1)) 54 W 3 (-1)) 54 W 4 (-1)) 54 W 5 (-1)) 52 W U 1) 3 0 0 (g 1 0 0 + 1)) c i j = m c i j := fun c hc i j => by
    have q : ∀ k ∈ ([1, 3, 48, 49, 52, 54] : List Nat), c ≠ k := fun k hk e => hc (e ▸ hk)
    rw [s3_k (q 3 (by decide)), s3_k (q 52 (by decide)), s3_k (q 54 (by decide)), s3_k (q 54 (by decide)), s3_k (q 54 (by decide)), s3_k (q 54 (by decide)), s3_k (q 54 (by decide)), s3_k (q 54 (by decide)), s3_k (q 49 (by decide)), s3_k (q 48 (by decide)), s3_k (q 1 (by decide))]
  have G44 : ∀ i j, (s3 (s3 (s3 (s3 (s3 (s3 (Z_group g W (g 1 0 0) u x) 1 0 0 (g 1 0 0 + 1)) 44 W U 1) 43 W 0 1) 85 T 0 (nI (6 * W + U))) 86 T 0 1) 11 0 0 (g 11 0 0 + 1)) 44 i j = if i = W ∧ j = U then 1 else g 44 i j := fun i j => by
    rw [s3_k (by decide), s3_k (by decide), s3_k (by decide), s3_k (by decide)]
    by_cases c : i = W ∧ j = U
    · rw [if_pos c, c.1, c.2, s3_s]
    · rw [if_neg c, show s3 (s3 (Z_group g W (g 1 0 0) u x) 1 0 0 (g 1 0 0 + 1)) 44 W U 1 44 i j = (Z_group g W (g 1 0 0) u x) 44 i j from (if_neg (fun q => c q.2)).trans (s3_k (by decide))]
      by_cases e : i = W
      · rw [e, Z_group_z.2.2.1, (z j).2.2.2.2]
      · exact Z_group_o e
  have G43 : ∀ i, (s3 (s3 (s3 (s3 (s3 (s3 (Z_group g W (g 1 0 0) u x) 1 0 0 (g 1 0 0 + 1)) 44 W U 1) 43 W 0 1) 85 T 0 (nI (6 * W + U))) 86 T 0 1) 11 0 0 (g 11 0 0 + 1)) 43 i 0 = if i = W then 1 else g 43 i 0 := fun i => by
    rw [s3_k (by decide), s3_k (by decide), s3_k (by decide)]
    by_cases c : i = W
    · rw [c, s3_s, if_pos rfl]
    · rw [s3_i c, s3_i c, s3_k (by decide), if_neg c, Z_group_o c]
  have G11 : (s3 (s3 (s3 (s3 (s3 (s3 (Z_group g W (g 1 0 0) u x) 1 0 0 (g 1 0 0 + 1)) 44 W U 1) 43 W 0 1) 85 T 0 (nI (6 * W + U))) 86 T 0 1) 11 0 0 (g 11 0 0 + 1)) 11 0 0 = g 11 0 0 + 1 := s3_s
  have G8 : ∀ c i j, c ∈ ([85, 86] : List Nat) → i ≠ T → (s3 (s3 (s3 (s3 (s3 (s3 (Z_group g W (g 1 0 0) u x) 1 0 0 (g 1 0 0 + 1)) 44 W U 1) 43 W 0 1) 85 T 0 (nI (6 * W + U))) 86 T 0 1) 11 0 0 (g 11 0 0 + 1)) c i j = g c i j := fun c i j hc hi => by
    rw [s3_k (nm hc (by decide)), s3_i hi, s3_i hi, s3_k (nm hc (by decide)), s3_k (nm hc (by decide)), s3_k (nm hc (by decide))]
    exact Z_group_c (fun hh => by simp only [List.mem_cons, List.not_mem_nil, or_false] at hh hc; omega)
  have G85 : (s3 (s3 (s3 (s3 (s3 (s3 (Z_group g W (g 1 0 0) u x) 1 0 0 (g 1 0 0 + 1)) 44 W U 1) 43 W 0 1) 85 T 0 (nI (6 * W + U))) 86 T 0 1) 11 0 0 (g 11 0 0 + 1)) 85 T 0 = nI (6 * W + U) := (s3_k (by decide)).trans ((s3_k (by decide)).trans s3_s)
  have G86 : (s3 (s3 (s3 (s3 (s3 (s3 (Z_group g W (g 1 0 0) u x) 1 0 0 (g 1 0 0 + 1)) 44 W U 1) 43 W 0 1) 85 T 0 (nI (6 * W + U))) 86 T 0 1) 11 0 0 (g 11 0 0 + 1)) 86 T 0 = 1 := (s3_k (by decide)).trans s3_s
  have M54 : ∀ i j, (s3 (s3 (s3 (s3 (s3 (s3 (s3 (s3 (s3 (s3 (s3 m 1 0 0 0) 48 W 0 u) 49 W 0 x) 54 W 0 (-1)) 54 W 1 (-1)) 54 W 2 (-1)) 54 W 3 (-1)) 54 W 4 (-1)) 54 W 5 (-1)) 52 W U 1) 3 0 0 (g 1 0 0 + 1)) 54 i j = if i = W ∧ j < 6 then -1 else m 54 i j := fun i j => by
    rw [s3_k (by decide), s3_k (by decide)]
    by_cases c : i = W ∧ j < 6
    · obtain ⟨rfl, c2⟩ := c
      rw [if_pos ⟨rfl, c2⟩]
      rcases (show j = 0 ∨ j = 1 ∨ j = 2 ∨ j = 3 ∨ j = 4 ∨ j = 5 by omega) with rfl | rfl | rfl | rfl | rfl | rfl <;> simp [s3]
    · rw [if_neg c]
      have q : ∀ (G : vS) (k : Nat), k < 6 → s3 G 54 W k (-1) 54 i j = G 54 i j := fun G k hk => if_neg (fun z => c ⟨z.2.1, by omega⟩)
      rw [q _ 5 (by omega), q _ 4 (by omega), q _ 3 (by omega), q _ 2 (by omega), q _ 1 (by omega), q _ 0 (by omega), s3_k (by decide), s3_k (by decide), s3_k (by decide)]
  have Mr : ∀ c i j, c ∈ ([48, 49] : List Nat) → (s3 (s3 (s3 (s3 (s3 (s3 (s3 (s3 (s3 (s3 (s3 m 1 0 0 0) 48 W 0 u) 49 W 0 x) 54 W 0 (-1)) 54 W 1 (-1)) 54 W 2 (-1)) 54 W 3 (-1)) 54 W 4 (-1)) 54 W 5 (-1)) 52 W U 1) 3 0 0 (g 1 0 0 + 1)) c i j = (s3 (s3 (s3 m 1 0 0 0) 48 W 0 u) 49 W 0 x) c i j := fun c i j hc => by
    rw [s3_k (nm hc (by decide)), s3_k (nm hc (by decide)), s3_k (nm hc (by decide)), s3_k (nm hc (by decide)), s3_k (nm hc (by decide)), s3_k (nm hc (by decide)), s3_k (nm hc (by decide)), s3_k (nm hc (by decide))]
  have E' : rE (s3 (s3 (s3 (s3 (s3 (s3 (Z_group g W (g 1 0 0) u x) 1 0 0 (g 1 0 0 + 1)) 44 W U 1) 43 W 0 1) 85 T 0 (nI (6 * W + U))) 86 T 0 1) 11 0 0 (g 11 0 0 + 1)) (s3 (s3 (s3 (s3 (s3 (s3 (s3 (s3 (s3 (s3 (s3 m 1 0 0 0) 48 W 0 u) 49 W 0 x) 54 W 0 (-1)) 54 W 1 (-1)) 54 W 2 (-1)) 54 W 3 (-1)) 54 W 4 (-1)) 54 W 5 (-1)) 52 W U 1) 3 0 0 (g 1 0 0 + 1)) := by
    intro q hq i j
    by_cases c0 : q = (1, 3)
    · subst c0
      have q2 := hE (1, 3) (by decide) i j
      show (s3 (s3 (s3 (s3 (s3 (s3 (Z_group g W (g 1 0 0) u x) 1 0 0 (g 1 0 0 + 1)) 44 W U 1) 43 W 0 1) 85 T 0 (nI (6 * W + U))) 86 T 0 1) 11 0 0 (g 11 0 0 + 1)) 1 i j = (s3 (s3 (s3 (s3 (s3 (s3 (s3 (s3 (s3 (s3 (s3 m 1 0 0 0) 48 W 0 u) 49 W 0 x) 54 W 0 (-1)) 54 W 1 (-1)) 54 W 2 (-1)) 54 W 3 (-1)) 54 W 4 (-1)) 54 W 5 (-1)) 52 W U 1) 3 0 0 (g 1 0 0 + 1)) 3 i j
      rw [s3_k (by decide), s3_k (by decide), s3_k (by decide), s3_k (by decide), s3_k (by decide)]
      by_cases d : i = 0 ∧ j = 0
      · rw [d.1, d.2, s3_s, s3_s]
      · rw [show s3 (Z_group g W (g 1 0 0) u x) 1 0 0 (g 1 0 0 + 1) 1 i j = g 1 i j from (if_neg (fun z => d z.2)).trans (Z_group_c (by decide))]
        refine q2.trans (Eq.symm ?_)
        refine (if_neg (fun z => d z.2)).trans ?_
        rw [s3_k (by decide), s3_k (by decide), s3_k (by decide), s3_k (by decide), s3_k (by decide), s3_k (by decide), s3_k (by decide), s3_k (by decide), s3_k (by decide), s3_k (by decide)]
    · by_cases c1 : q = (40, 48)
      · subst c1
        have q2 := hE (40, 48) (by decide) i j
        show (s3 (s3 (s3 (s3 (s3 (s3 (Z_group g W (g 1 0 0) u x) 1 0 0 (g 1 0 0 + 1)) 44 W U 1) 43 W 0 1) 85 T 0 (nI (6 * W + U))) 86 T 0 1) 11 0 0 (g 11 0 0 + 1)) 40 i j = (s3 (s3 (s3 (s3 (s3 (s3 (s3 (s3 (s3 (s3 (s3 m 1 0 0 0) 48 W 0 u) 49 W 0 x) 54 W 0 (-1)) 54 W 1 (-1)) 54 W 2 (-1)) 54 W 3 (-1)) 54 W 4 (-1)) 54 W 5 (-1)) 52 W U 1) 3 0 0 (g 1 0 0 + 1)) 48 i j
        rw [Gw 40 i j (by decide), Mr 48 i j (by decide), s3_k (by decide)]
        by_cases e : i = W
        · subst e
          rw [Z_group_r.1]
          by_cases d : j = 0
          · subst d; rw [if_pos rfl, s3_s]
          · rw [if_neg d, s3_j d, s3_k (by decide), ← q2]
            exact (z j).1.symm
        · rw [Z_group_o e, s3_i e, s3_k (by decide)]; exact q2
      · by_cases c2 : q = (41, 49)
        · subst c2
          have q2 := hE (41, 49) (by decide) i j
          show (s3 (s3 (s3 (s3 (s3 (s3 (Z_group g W (g 1 0 0) u x) 1 0 0 (g 1 0 0 + 1)) 44 W U 1) 43 W 0 1) 85 T 0 (nI (6 * W + U))) 86 T 0 1) 11 0 0 (g 11 0 0 + 1)) 41 i j = (s3 (s3 (s3 (s3 (s3 (s3 (s3 (s3 (s3 (s3 (s3 m 1 0 0 0) 48 W 0 u) 49 W 0 x) 54 W 0 (-1)) 54 W 1 (-1)) 54 W 2 (-1)) 54 W 3 (-1)) 54 W 4 (-1)) 54 W 5 (-1)) 52 W U 1) 3 0 0 (g 1 0 0 + 1)) 49 i j
          rw [Gw 41 i j (by decide), Mr 49 i j (by decide)]
          by_cases e : i = W
          · subst e
            rw [Z_group_r.2]
            by_cases d : j = 0
            · subst d; rw [if_pos rfl, s3_s]
            · rw [if_neg d, s3_j d, s3_k (by decide), s3_k (by decide), ← q2]
              exact (z j).2.1.symm
          · rw [Z_group_o e, s3_i e, s3_k (by decide), s3_k (by decide)]; exact q2
        · by_cases c3 : q = (44, 52)
          · subst c3
            have q2 := hE (44, 52) (by decide) i j
            show (s3 (s3 (s3 (s3 (s3 (s3 (Z_group g W (g 1 0 0) u x) 1 0 0 (g 1 0 0 + 1)) 44 W U 1) 43 W 0 1) 85 T 0 (nI (6 * W + U))) 86 T 0 1) 11 0 0 (g 11 0 0 + 1)) 44 i j = (s3 (s3 (s3 (s3 (s3 (s3 (s3 (s3 (s3 (s3 (s3 m 1 0 0 0) 48 W 0 u) 49 W 0 x) 54 W 0 (-1)) 54 W 1 (-1)) 54 W 2 (-1)) 54 W 3 (-1)) 54 W 4 (-1)) 54 W 5 (-1)) 52 W U 1) 3 0 0 (g 1 0 0 + 1)) 52 i j
            rw [G44, s3_k (by decide)]
            by_cases e : i = W ∧ j = U
            · rw [if_pos e, e.1, e.2, s3_s]
            · rw [if_neg e]
              refine q2.trans (Eq.symm ((if_neg (fun z => e z.2)).trans ?_))
              rw [s3_k (by decide), s3_k (by decide), s3_k (by decide), s3_k (by decide), s3_k (by decide), s3_k (by decide), s3_k (by decide), s3_k (by decide), s3_k (by decide)]
          · have k1 : ∀ q ∈ vPairs, q ≠ (1, 3) → q ≠ (40, 48) → q ≠ (41, 49) → q ≠ (44, 52) → q.1 ∉ ([1, 40, 41, 43, 44, 46, 47, 48, 104, 85, 86, 11] : List Nat) ∧ q.2 ∉ ([1, 3, 48, 49, 52, 54] : List Nat) := by decide
            have k2 := k1 q hq c0 c1 c2 c3
            rw [Gg _ k2.1, Mm _ k2.2]; exact hE q hq i j
  have HG : rG (s3 (s3 (s3 (s3 (s3 (s3 (Z_group g W (g 1 0 0) u x) 1 0 0 (g 1 0 0 + 1)) 44 W U 1) 43 W 0 1) 85 T 0 (nI (6 * W + U))) 86 T 0 1) 11 0 0 (g 11 0 0 + 1)) := by
    have a0 := Gg 0 (by decide)
    unfold rG
    rw [n0, e1, a0]
    refine ⟨by omega, by omega, fun i => ?_, fun i hi => ?_, fun i => ?_, fun i k => ?_, fun i => ?_⟩
    · rw [Gw 104 i 0 (by decide)]
      by_cases e : i = W
      · rw [e, Z_group_v.2.2]
        exact ⟨fun q => absurd q (by decide), fun q => by omega⟩
      · rw [Z_group_o e, g3 i]; omega
    · by_cases e : i = W
      · subst e
        rw [Gw 48 i 0 (by decide), Gw 46 i 0 (by decide), Gw 41 i 0 (by decide), Gw 40 i 0 (by decide), Z_group_v.1, Z_group_v.2.1, Z_group_r.1, Z_group_r.2, if_pos rfl, if_pos rfl, hxw]
        refine ⟨rfl, rfl, hx.1, ?_, hu0⟩
        rw [hUe, G44, if_pos ⟨rfl, rfl⟩]
      · rw [Gw 48 i 0 (by decide), Gw 46 i 0 (by decide), Gw 41 i 0 (by decide), Gw 40 i 0 (by decide), Z_group_o e, Z_group_o e, Z_group_o e, Z_group_o e, G44, if_neg (fun q => e q.1)]
        exact g4 i (by omega)
    · rw [Gw 41 i 0 (by decide)]
      by_cases e : i = W
      · rw [e, Z_group_r.2, if_pos rfl]; exact hx.2
      · rw [Z_group_o e]; exact g5 i
    · rw [G44]
      by_cases c : i = W ∧ k = U
      · rw [if_pos c]; exact Or.inr ⟨rfl, by omega, by omega⟩
      · rw [if_neg c]
        exact (g6 i k).imp id (fun q => ⟨q.1, q.2.1, by omega⟩)
    · rw [G43]
      by_cases c : i = W
      · rw [if_pos c]
        have s := sum6 (a := fun k => (s3 (s3 (s3 (s3 (s3 (s3 (Z_group g W (g 1 0 0) u x) 1 0 0 (g 1 0 0 + 1)) 44 W U 1) 43 W 0 1) 85 T 0 (nI (6 * W + U))) 86 T 0 1) 11 0 0 (g 11 0 0 + 1)) 44 i k) (b := fun k => g 44 i k) (d := 1) hU6 (fun k => by
          show (s3 (s3 (s3 (s3 (s3 (s3 (Z_group g W (g 1 0 0) u x) 1 0 0 (g 1 0 0 + 1)) 44 W U 1) 43 W 0 1) 85 T 0 (nI (6 * W + U))) 86 T 0 1) 11 0 0 (g 11 0 0 + 1)) 44 i k = if k = U then g 44 i k + 1 else g 44 i k
          rw [G44]
          by_cases d : k = U
          · rw [if_pos ⟨c, d⟩, if_pos d, c, (z k).2.2.2.2, Int32.zero_add]
          · rw [if_neg (fun z => d z.2), if_neg d])
        refine Eq.trans ?_ s.symm
        show 1 = g 44 i 0 + g 44 i 1 + g 44 i 2 + g 44 i 3 + g 44 i 4 + g 44 i 5 + 1
        rw [c, (z 0).2.2.2.2, (z 1).2.2.2.2, (z 2).2.2.2.2, (z 3).2.2.2.2, (z 4).2.2.2.2, (z 5).2.2.2.2]
        decide
      · rw [if_neg c, G44, G44, G44, G44, G44, G44, if_neg (fun z => c z.1), if_neg (fun z => c z.1), if_neg (fun z => c z.1), if_neg (fun z => c z.1), if_neg (fun z => c z.1), if_neg (fun z => c z.1)]
        exact g7 i
  have HGz : rGz (s3 (s3 (s3 (s3 (s3 (s3 (Z_group g W (g 1 0 0) u x) 1 0 0 (g 1 0 0 + 1)) 44 W U 1) 43 W 0 1) 85 T 0 (nI (6 * W + U))) 86 T 0 1) 11 0 0 (g 11 0 0 + 1)) := by
    intro i k hi
    rw [n0, e1] at hi
    have c : i ≠ W := by omega
    rw [Gi 40 i k (by decide) c, Gi 41 i k (by decide) c, Gi 42 i k (by decide) c, Gi 43 i k (by decide) c, Gi 44 i k (by decide) c]
    exact hrGz i k (by omega)
  have HK : rK (s3 (s3 (s3 (s3 (s3 (s3 (Z_group g W (g 1 0 0) u x) 1 0 0 (g 1 0 0 + 1)) 44 W U 1) 43 W 0 1) 85 T 0 (nI (6 * W + U))) 86 T 0 1) 11 0 0 (g 11 0 0 + 1)) (s3 (s3 (s3 (s3 (s3 (s3 (s3 (s3 (s3 (s3 (s3 m 1 0 0 0) 48 W 0 u) 49 W 0 x) 54 W 0 (-1)) 54 W 1 (-1)) 54 W 2 (-1)) 54 W 3 (-1)) 54 W 4 (-1)) 54 W 5 (-1)) 52 W U 1) 3 0 0 (g 1 0 0 + 1)) := by
    obtain ⟨k1, k2, k3, k4, k5⟩ := hrK
    unfold rK
    rw [n0, e1]
    refine ⟨fun i j hi hj => ?_, fun i j => ?_, fun i j hi hj => ?_, fun i j hi => ?_, fun i => ?_⟩
    · rw [M54, Gw 47 i j (by decide)]
      by_cases e : i = W
      · rw [if_pos ⟨e, hj⟩, e, Z_group_z.2.2.2]; decide
      · rw [if_neg (fun q => e q.1), Z_group_o e]; exact k1 i j (by omega) hj
    · rw [M54]
      split
      · decide
      · exact k2 i j
    · rw [M54, Gg 42 (by decide)]
      by_cases e : i = W
      · rw [if_pos ⟨e, hj⟩, e, (z 0).2.2.1]; decide
      · rw [if_neg (fun q => e q.1)]; exact k3 i j (by omega) hj
    · rw [M54, if_neg (by omega)]; exact k4 i j (by omega)
    · rw [Gg 42 (by decide)]; exact k5 i
  have HF : rF (s3 (s3 (s3 (s3 (s3 (s3 (Z_group g W (g 1 0 0) u x) 1 0 0 (g 1 0 0 + 1)) 44 W U 1) 43 W 0 1) 85 T 0 (nI (6 * W + U))) 86 T 0 1) 11 0 0 (g 11 0 0 + 1)) (s3 (s3 (s3 (s3 (s3 (s3 (s3 (s3 (s3 (s3 (s3 m 1 0 0 0) 48 W 0 u) 49 W 0 x) 54 W 0 (-1)) 54 W 1 (-1)) 54 W 2 (-1)) 54 W 3 (-1)) 54 W 4 (-1)) 54 W 5 (-1)) 52 W U 1) 3 0 0 (g 1 0 0 + 1)) := by
    obtain ⟨f1, f2, f3, f4, f5⟩ := hrF
    have a2 := Gg 2 (by decide); have a42 := Gg 42 (by decide); have a50 := Gg 50 (by decide); have a51 := Gg 51 (by decide); have a61 := Gg 61 (by decide); have a62 := Gg 62 (by decide); have a63 := Gg 63 (by decide); have a66 := Gg 66 (by decide); have a105 := Gg 105 (by decide); have b13 := Mm 13 (by decide); have b59 := Mm 59 (by decide)
    unfold rF
    simp only [n0, e1, a2, a42, a50, a51, a61, a62, a63, a66, a105, b13, b59]
    exact ⟨f1, f2, f3, fun f hf => by
      obtain ⟨r1, r2, r3, r4, r5⟩ := f4 f hf
      exact ⟨r1, r2, r3, by omega, r5⟩, f5⟩
  have HP : rP (s3 (s3 (s3 (s3 (s3 (s3 (Z_group g W (g 1 0 0) u x) 1 0 0 (g 1 0 0 + 1)) 44 W U 1) 43 W 0 1) 85 T 0 (nI (6 * W + U))) 86 T 0 1) 11 0 0 (g 11 0 0 + 1)) (s3 (s3 (s3 (s3 (s3 (s3 (s3 (s3 (s3 (s3 (s3 m 1 0 0 0) 48 W 0 u) 49 W 0 x) 54 W 0 (-1)) 54 W 1 (-1)) 54 W 2 (-1)) 54 W 3 (-1)) 54 W 4 (-1)) 54 W 5 (-1)) 52 W U 1) 3 0 0 (g 1 0 0 + 1)) := by
    intro f p
    rw [Gg 106 (by decide), Mm 63 (by decide), Gg 56 (by decide), Gg 57 (by decide), Mm 61 (by decide), Gg 59 (by decide), Mm 67 (by decide), Gg 58 (by decide), Mm 65 (by decide), Gg 64 (by decide), Gg 65 (by decide), Mm 59 (by decide), Gg 67 (by decide), Gg 50 (by decide), Gg 42 (by decide), Gg 60 (by decide), G11, eT]
    rcases hrP f p with q | ⟨p0, p1, p2, p3, p4, p5, p6, p7, p8, p9, pa, pb, pc⟩
    · exact Or.inl q
    · exact Or.inr ⟨p0, p1, p2, p3, p4, p5, p6, p7, p8, p9, pa, pb, by omega⟩
  have HQ : rQ (s3 (s3 (s3 (s3 (s3 (s3 (Z_group g W (g 1 0 0) u x) 1 0 0 (g 1 0 0 + 1)) 44 W U 1) 43 W 0 1) 85 T 0 (nI (6 * W + U))) 86 T 0 1) 11 0 0 (g 11 0 0 + 1)) := by
    have a106 := Gg 106 (by decide); have a2 := Gg 2 (by decide); have a105 := Gg 105 (by decide); have a50 := Gg 50 (by decide)
    have pc : ∀ f, V_X4_partCount (s3 (s3 (s3 (s3 (s3 (s3 (Z_group g W (g 1 0 0) u x) 1 0 0 (g 1 0 0 + 1)) 44 W U 1) 43 W 0 1) 85 T 0 (nI (6 * W + U))) 86 T 0 1) 11 0 0 (g 11 0 0 + 1)) f = V_X4_partCount g f := fun f => partCount_k a106 _ _ _
    have r48 : ∀ i : Nat, (i : Int) < (g 1 0 0).toInt + 1 → (s3 (s3 (s3 (s3 (s3 (s3 (Z_group g W (g 1 0 0) u x) 1 0 0 (g 1 0 0 + 1)) 44 W U 1) 43 W 0 1) 85 T 0 (nI (6 * W + U))) 86 T 0 1) 11 0 0 (g 11 0 0 + 1)) 48 i 0 = nI i := fun i hi => by
      rw [Gw 48 i 0 (by decide)]
      by_cases e : i = W
      · rw [e, Z_group_v.1, hxw]
      · rw [Z_group_o e]; exact (g4 i (by omega)).1
    have L : ∀ (a : Nat), (a : Int) < (g 1 0 0).toInt + 1 → ∀ (k i : Nat) (y : Int32), i + k = 21 → i ≤ 20 → VL_X11_partsOf_4 (s3 (s3 (s3 (s3 (s3 (s3 (Z_group g W (g 1 0 0) u x) 1 0 0 (g 1 0 0 + 1)) 44 W U 1) 43 W 0 1) 85 T 0 (nI (6 * W + U))) 86 T 0 1) 11 0 0 (g 11 0 0 + 1)) a k i y = if a = W then y else VL_X11_partsOf_4 g a k i y := by
      intro a ha k
      induction k with
      | zero =>
        intro i y hh h20
        exfalso
        omega
      | succ k ih =>
        intro i y hh h20
        have ei : (nI i).toInt = (i : Int) := nI_toInt (by omega)
        unfold VL_X11_partsOf_4
        rw [a2, a105, pc]
        by_cases d : g 2 0 0 ≤ nI i
        · rw [if_pos d, if_pos d, ite_self]
        · rw [i32_le, ei] at d
          have d2 : ¬ 20 ≤ nI i := by rw [i32_le, ei, show (20 : Int32).toInt = 20 from by decide]; have := hrF.2.1; omega
          have d0 : ¬ g 2 0 0 ≤ nI i := by rw [i32_le, ei]; exact d
          have d3 : ¬ g 105 i 0 = 0 := fun q => by have := (hrF.2.2.1 i).mp q; omega
          have hk : i + 1 + k = 21 := by omega
          have hk2 : i + 1 ≤ 20 := by have := hrF.2.1; omega
          have gf := hFg i (by omega)
          have g0 := tnI (hF0 i)
          rw [if_neg d0, if_neg d0, if_neg d2, if_neg d2, if_neg d3, if_neg d3, a50, r48 _ (by omega), r48 a ha]
          by_cases e : a = W
          · rw [if_pos e, if_neg (by rw [qnI_eq (by omega) (by omega)]; omega)]
            exact (ih _ _ hk hk2).trans (if_pos e)
          · rw [if_neg e, (g4 _ (by omega)).1, (g4 a (by omega)).1]
            have ih2 := fun y => (ih (i + 1) y hk hk2).trans (if_neg e)
            rw [ih2, ih2]
    intro i hi
    rw [n0, e1] at hi
    rw [Gw 41 i 0 (by decide)]
    have q : V_X11_partsOf (s3 (s3 (s3 (s3 (s3 (s3 (Z_group g W (g 1 0 0) u x) 1 0 0 (g 1 0 0 + 1)) 44 W U 1) 43 W 0 1) 85 T 0 (nI (6 * W + U))) 86 T 0 1) 11 0 0 (g 11 0 0 + 1)) i = if i = W then 0 else V_X11_partsOf g i := by
      by_cases e : i = W
      · rw [if_pos e]; exact (L i hi 21 0 0 (by omega) (by omega)).trans (if_pos e)
      · rw [if_neg e]; exact (L i hi 21 0 0 (by omega) (by omega)).trans (if_neg e)
    rw [q]
    by_cases e : i = W
    · rw [if_pos e, e, Z_group_r.2, if_pos rfl, i00]; omega
    · rw [if_neg e, Z_group_o e]; exact hrQ i (by omega)
  have HH : rH (s3 (s3 (s3 (s3 (s3 (s3 (Z_group g W (g 1 0 0) u x) 1 0 0 (g 1 0 0 + 1)) 44 W U 1) 43 W 0 1) 85 T 0 (nI (6 * W + U))) 86 T 0 1) 11 0 0 (g 11 0 0 + 1)) (s3 (s3 (s3 (s3 (s3 (s3 (s3 (s3 (s3 (s3 (s3 m 1 0 0 0) 48 W 0 u) 49 W 0 x) 54 W 0 (-1)) 54 W 1 (-1)) 54 W 2 (-1)) 54 W 3 (-1)) 54 W 4 (-1)) 54 W 5 (-1)) 52 W U 1) 3 0 0 (g 1 0 0 + 1)) := by
    have q1 : rH (s3 g 1 0 0 (g 1 0 0 + 1)) m := by
      obtain ⟨h1, h2, h3, h4⟩ := hrH
      have Q : ∀ c, c ≠ 1 → ∀ i j, s3 g 1 0 0 (g 1 0 0 + 1) c i j = g c i j := fun c hc i j => s3_k hc
      have a2 := Q 2 (by decide); have a11 := Q 11 (by decide); have a42 := Q 42 (by decide); have a44 := Q 44 (by decide); have a50 := Q 50 (by decide); have a60 := Q 60 (by decide); have a65 := Q 65 (by decide); have a106 := Q 106 (by decide)
      have e0 : ∀ p k, rpS (s3 g 1 0 0 (g 1 0 0 + 1)) p k = rpS g p k := fun p k => rpS_k (Q 85 (by decide)) (Q 86 (by decide)) k
      have n9 : s3 g 1 0 0 (g 1 0 0 + 1) 1 0 0 = g 1 0 0 + 1 := s3_s
      unfold rH
      simp only [a2, a11, a42, a44, a50, a60, a65, a106, e0, n9, e1]
      refine ⟨h1, fun i j hi hj => ?_, fun i j hi hi5 hj => h3 i j (by omega) hi5 hj, h4⟩
      by_cases e : i = W
      · subst e
        refine ⟨fun q => absurd (z j).2.2.2.2 q, fun _ => ?_⟩
        rw [h3 i j (by omega) (by omega) hj, i00]; exact h1
      · exact h2 i j (by omega) hj
    have r1 : s3 g 1 0 0 (g 1 0 0 + 1) 1 0 0 = g 1 0 0 + 1 := s3_s
    refine rH_ev (g := s3 g 1 0 0 (g 1 0 0 + 1)) (X := W) (U := U) (T := T) (z := 1) q1 (rP_k (fun c hc i j => s3_k (nm hc (by decide))) (fun _ _ _ _ => rfl) hrP) (by rw [r1, e1]; omega) (fun f hf => ?_) (fun f => ?_) (by rw [r1, e1]; omega) (by omega) hU6 (by rw [s3_k (by decide)]; exact tT) (by omega) (fun c i j hc hi => ?_) G85 G86 ?_ ?_ ?_ (fun c hc i j => ?_) (fun i j c => ?_) (Or.inr ⟨by decide, by rw [G44, if_pos ⟨rfl, rfl⟩]; decide⟩) (fun i => ?_) (fun f j hf c => ?_)
    · rw [s3_k (by decide)] at hf
      rw [r1, e1, s3_k (by decide)]
      have := hFg f hf
      omega
    · rw [s3_k (by decide)]; exact hF0 f
    · exact (G8 c i j hc hi).trans (s3_k (nm hc (by decide))).symm
    · rw [G11, s3_k (by decide)]
    · rw [n0, r1]
    · rw [Gg 2 (by decide), s3_k (by decide)]
    · exact (Gg c ((by decide : ∀ c ∈ ([50, 60, 65, 106] : List Nat), c ∉ ([1, 40, 41, 43, 44, 46, 47, 48, 104, 85, 86, 11] : List Nat)) c hc) i j).trans (s3_k (nm hc (by decide))).symm
    · rw [G44, if_neg c, s3_k (by decide)]
    · rw [Gg 42 (by decide), s3_k (by decide)]; exact Int.le_refl _
    · have r50 : s3 g 1 0 0 (g 1 0 0 + 1) 50 f 0 = g 50 f 0 := s3_k (by decide)
      rw [s3_k (by decide)] at hf
      rw [r50]
      have a := hFg f hf
      have b := tnI (hF0 f)
      rw [M54, if_neg (by omega)]
  have HN : rN (n + 1) (s3 (s3 (s3 (s3 (s3 (s3 (Z_group g W (g 1 0 0) u x) 1 0 0 (g 1 0 0 + 1)) 44 W U 1) 43 W 0 1) 85 T 0 (nI (6 * W + U))) 86 T 0 1) 11 0 0 (g 11 0 0 + 1)) (s3 (s3 (s3 (s3 (s3 (s3 (s3 (s3 (s3 (s3 (s3 m 1 0 0 0) 48 W 0 u) 49 W 0 x) 54 W 0 (-1)) 54 W 1 (-1)) 54 W 2 (-1)) 54 W 3 (-1)) 54 W 4 (-1)) 54 W 5 (-1)) 52 W U 1) 3 0 0 (g 1 0 0 + 1)) := by
    obtain ⟨n1, n2, n3, n4, n5, n6, Z, n7, n8, n9, na, nb⟩ := hrN
    have a51 := Gg 51 (by decide); have a9 := Gg 9 (by decide); have a8 := Gg 8 (by decide); have a42 := Gg 42 (by decide); have a0 := Gg 0 (by decide); have b63 := Mm 63 (by decide); have b6 := Mm 6 (by decide)
    have s := sum5 (a := fun i => ((s3 (s3 (s3 (s3 (s3 (s3 (Z_group g W (g 1 0 0) u x) 1 0 0 (g 1 0 0 + 1)) 44 W U 1) 43 W 0 1) 85 T 0 (nI (6 * W + U))) 86 T 0 1) 11 0 0 (g 11 0 0 + 1)) 43 i 0).toInt) (b := fun i => (g 43 i 0).toInt) (d := 1) (U := W) (by omega) (fun k => by
      show ((s3 (s3 (s3 (s3 (s3 (s3 (Z_group g W (g 1 0 0) u x) 1 0 0 (g 1 0 0 + 1)) 44 W U 1) 43 W 0 1) 85 T 0 (nI (6 * W + U))) 86 T 0 1) 11 0 0 (g 11 0 0 + 1)) 43 k 0).toInt = if k = W then (g 43 k 0).toInt + 1 else (g 43 k 0).toInt
      rw [G43]
      by_cases c : k = W
      · rw [if_pos c, if_pos c, c, (z 0).2.2.2.1]; decide
      · rw [if_neg c, if_neg c])
    refine ⟨fun f => ?_, fun f p => ?_, ?_, ?_, ?_, ?_, Z, n7, ?_, fun i => ?_, ?_, ?_⟩
    · rw [a51]; have := n1 f; omega
    · rw [b63]; have := n2 f p; omega
    · rw [a9]; exact n3
    · rw [a8]; exact n4
    · rw [a8, a9]; exact n5
    · rw [a9, G11, eT, a0]; omega
    · rw [G11, eT]; omega
    · rw [a42]; exact n9 i
    · rw [a0, n0, e1]; exact fun hl => ⟨(na hl).1, by have := (na hl).2; omega⟩
    · rw [b6, a9]; exact nb
  exact ⟨E', (rU_k (fun c hc i j => Gg c ((by decide : ∀ c ∈ ([0, 22, 25, 26, 28, 103] : List Nat), c ∉ ([1, 40, 41, 43, 44, 46, 47, 48, 104, 85, 86, 11] : List Nat)) c hc) i j)  hrU), (rUz_k (fun c hc i j => Gg c ((by decide : ∀ c ∈ ([0, 20, 21, 22, 23, 24, 25, 26, 27, 30, 31, 32] : List Nat), c ∉ ([1, 40, 41, 43, 44, 46, 47, 48, 104, 85, 86, 11] : List Nat)) c hc) i j)  hrUz), (rD_k (fun c hc i j => Gg c ((by decide : ∀ c ∈ ([2, 27, 30] : List Nat), c ∉ ([1, 40, 41, 43, 44, 46, 47, 48, 104, 85, 86, 11] : List Nat)) c hc) i j)  hrD), HG, HGz, HK, HF, (rFz_k (fun c hc i j => Gg c ((by decide : ∀ c ∈ ([2, 50, 51, 52, 53, 106] : List Nat), c ∉ ([1, 40, 41, 43, 44, 46, 47, 48, 104, 85, 86, 11] : List Nat)) c hc) i j)  hrFz), HP, (rV_k (fun c hc i j => Gg c ((by decide : ∀ c ∈ ([51] : List Nat), c ∉ ([1, 40, 41, 43, 44, 46, 47, 48, 104, 85, 86, 11] : List Nat)) c hc) i j) (fun c hc i j => Mm c ((by decide : ∀ c ∈ ([61] : List Nat), c ∉ ([1, 3, 48, 49, 52, 54] : List Nat)) c hc) i j) hrV), (rLg_k (fun c hc i j => Gg c ((by decide : ∀ c ∈ ([4] : List Nat), c ∉ ([1, 40, 41, 43, 44, 46, 47, 48, 104, 85, 86, 11] : List Nat)) c hc) i j)  hrLg), (rW_k (fun c hc i j => Gg c ((by decide : ∀ c ∈ ([3, 71, 72] : List Nat), c ∉ ([1, 40, 41, 43, 44, 46, 47, 48, 104, 85, 86, 11] : List Nat)) c hc) i j)  hrW), (rC_k (fun c hc i j => Gg c ((by decide : ∀ c ∈ ([5] : List Nat), c ∉ ([1, 40, 41, 43, 44, 46, 47, 48, 104, 85, 86, 11] : List Nat)) c hc) i j)  hrC), (rS_k (fun c hc i j => Gg c ((by decide : ∀ c ∈ ([17, 82, 83] : List Nat), c ∉ ([1, 40, 41, 43, 44, 46, 47, 48, 104, 85, 86, 11] : List Nat)) c hc) i j) (fun c hc i j => Mm c ((by decide : ∀ c ∈ ([74] : List Nat), c ∉ ([1, 3, 48, 49, 52, 54] : List Nat)) c hc) i j) hrS), HQ, (rT_k (fun c hc i j => Gg c ((by decide : ∀ c ∈ ([12, 13, 14, 75] : List Nat), c ∉ ([1, 40, 41, 43, 44, 46, 47, 48, 104, 85, 86, 11] : List Nat)) c hc) i j) (fun c hc i j => Mm c ((by decide : ∀ c ∈ ([6, 14, 71] : List Nat), c ∉ ([1, 3, 48, 49, 52, 54] : List Nat)) c hc) i j) hrT), (rX_k (fun c hc i j => Gg c ((by decide : ∀ c ∈ ([16, 72, 73] : List Nat), c ∉ ([1, 40, 41, 43, 44, 46, 47, 48, 104, 85, 86, 11] : List Nat)) c hc) i j)  hrX), HH, (rJ_k (fun c hc i j => Gg c ((by decide : ∀ c ∈ ([20] : List Nat), c ∉ ([1, 40, 41, 43, 44, 46, 47, 48, 104, 85, 86, 11] : List Nat)) c hc) i j)  hrJ), HN⟩
theorem groupSL {m : vS} {u x : Int32} {q : vS} {w : Nat} (hw : (m 3 0 0).toNatClampNeg = w) : SL_X12_addGroup_70 m u x 7 0 q = s3 (s3 (s3 (s3 (s3 (s3 (s3 (s3 q 54 w 0 (-1)) 54 w 1 (-1)) 54 w 2 (-1)) 54 w 3 (-1)) 54 w 4 (-1)) 54 w 5 (-1)) 52 w u.toNatClampNeg 1) 3 0 0 (m 3 0 0 + 1) ∧ VL_X12_addGroup_70 m u x 7 0 q = m 3 0 0 + 1 - 1 := by
  have st : ∀ (n k : Nat) (q : vS), k < 6 → SL_X12_addGroup_70 m u x (n + 1) k q = SL_X12_addGroup_70 m u x n (k + 1) (s3 q 54 w k (-1)) := fun n k q h2 => by
    have c : ¬ 6 ≤ nI k := by rw [i32_le, nI_toInt (by omega), show (6 : Int32).toInt = 6 from by decide]; omega
    rw [← hw]
    exact if_neg c
  have sv : ∀ (n k : Nat) (q : vS), k < 6 → VL_X12_addGroup_70 m u x (n + 1) k q = VL_X12_addGroup_70 m u x n (k + 1) (s3 q 54 w k (-1)) := fun n k q h2 => by
    have c : ¬ 6 ≤ nI k := by rw [i32_le, nI_toInt (by omega), show (6 : Int32).toInt = 6 from by decide]; omega
    rw [← hw]
    exact if_neg c
  constructor
  · rw [st 6 0 _ (by omega), st 5 1 _ (by omega), st 4 2 _ (by omega), st 3 3 _ (by omega), st 2 4 _ (by omega), st 1 5 _ (by omega)]
    rw [← hw]
    exact if_pos (by decide)
  · rw [sv 6 0 _ (by omega), sv 5 1 _ (by omega), sv 4 2 _ (by omega), sv 3 3 _ (by omega), sv 2 4 _ (by omega), sv 1 5 _ (by omega)]
    exact if_pos (by decide)
theorem pz_addGroup : PZ_addGroup vInv := by
  intro n g m h hn u x
  have e3 := vE_ h (a := 1) (b := 3) (by decide) 0 0
  have bT := bE h (by omega)
  have g1 : 0 ≤ (g 1 0 0).toInt ∧ (g 1 0 0).toInt ≤ 5 := by
    obtain ⟨-, -, -, -, hG, -⟩ := h
    exact ⟨hG.1, hG.2.1⟩
  have k40 : (40 : Int32).toInt = 40 := by decide
  have k1 : (1 : Int32).toInt = 1 := by decide
  rcases nU h u with ⟨b1, b2, b3, b4, b5, b6, b7⟩ | ⟨b1, b2, -⟩
  · by_cases c : 1 ≤ x.toInt ∧ x.toInt ≤ 40
    · have c1 : ¬ x < 1 := by rw [i32_lt, k1]; omega
      have c2 : x ≤ 40 := by rw [i32_le, k40]; omega
      have c3 : V_X12_isBetween m x 1 40 = 1 := isB1 (by rw [k1, k40]; exact c)
      have d0 : ¬ g 1 0 0 < 0 := by rw [i32_lt, i00]; omega
      by_cases d : (g 1 0 0).toInt < 5
      · have d1 : g 1 0 0 < 5 := by rw [i32_lt, show (5 : Int32).toInt = 5 from by decide]; exact d
        have d2 : ¬ g 1 0 0 = 5 := fun q => by rw [q] at d; exact absurd d (by decide)
        have hI := vInv_group h hn rfl d rfl b3 b5 (by omega) c rfl
        have gs := groupSL (m := m) (u := u) (x := x) (q := s3 (s3 (S_X12_isWrong m 0) 48 (m 3 0 0).toNatClampNeg 0 u) 49 (m 3 0 0).toNatClampNeg 0 x) rfl
        have hS : S_X12_addGroup m u x = (s3 (s3 (s3 (s3 (s3 (s3 (s3 (s3 (s3 (s3 (s3 m 1 0 0 0) 48 (g 1 0 0).toNatClampNeg 0 u) 49 (g 1 0 0).toNatClampNeg 0 x) 54 (g 1 0 0).toNatClampNeg 0 (-1)) 54 (g 1 0 0).toNatClampNeg 1 (-1)) 54 (g 1 0 0).toNatClampNeg 2 (-1)) 54 (g 1 0 0).toNatClampNeg 3 (-1)) 54 (g 1 0 0).toNatClampNeg 4 (-1)) 54 (g 1 0 0).toNatClampNeg 5 (-1)) 52 (g 1 0 0).toNatClampNeg u.toNatClampNeg 1) 3 0 0 (g 1 0 0 + 1)) := by
          rw [e3] at gs
          refine Eq.trans ?_ gs.1
          simp only [S_X12_addGroup, b2, c3, e3, d2, ↓reduceIte, d10]
        have z48 : Z_group g (g 1 0 0).toNatClampNeg (g 1 0 0) u x 48 (g 1 0 0).toNatClampNeg 0 = g 1 0 0 := Z_group_v.1
        have hG : S_X11_addGroup g u x = (s3 (s3 (s3 (s3 (s3 (s3 (Z_group g (g 1 0 0).toNatClampNeg (g 1 0 0) u x) 1 0 0 (g 1 0 0 + 1)) 44 (g 1 0 0).toNatClampNeg u.toNatClampNeg 1) 43 (g 1 0 0).toNatClampNeg 0 1) 85 (g 11 0 0).toNatClampNeg 0 (nI (6 * (g 1 0 0).toNatClampNeg + u.toNatClampNeg))) 86 (g 11 0 0).toNatClampNeg 0 1) 11 0 0 (g 11 0 0 + 1)) := by
          simp only [S_X11_addGroup, b1, c1, c2, d0, d1, ↓reduceIte]
          unfold S_X2_noteJoined
          have zc : Z_group g (g 1 0 0).toNatClampNeg (g 1 0 0) u x 11 0 0 = g 11 0 0 := Z_group_c (by decide)
          have z43 : Z_group g (g 1 0 0).toNatClampNeg (g 1 0 0) u x 43 (g 1 0 0).toNatClampNeg 0 = 0 := Z_group_z.2.1
          rw [takeE b3 b5, noteE (E := g 11 0 0) (((s3_k (by decide)).trans ((s3_k (by decide)).trans (s3_k (by decide)))).trans zc) bT.1 (by omega), z48, evN g1.1 b3, s3_k (by decide), z43, Int32.zero_add]
        have hX : X_X11_addGroup g u x = 0 := by simp only [X_X11_addGroup, b1, c1, c2, d0, d1, ↓reduceIte]
        have hV : V_X11_addGroup g u x = V_X12_addGroup m u x := by
          have v1 : V_X11_addGroup g u x = g 1 0 0 := by simp only [V_X11_addGroup, b1, c1, c2, d0, d1, ↓reduceIte]; exact z48
          have v2 : V_X12_addGroup m u x = m 3 0 0 + 1 - 1 := by
            refine Eq.trans ?_ gs.2
            simp only [V_X12_addGroup, b2, c3, e3, d2, ↓reduceIte, d10]
          rw [v1, v2, e3, Int32.add_sub_cancel]
        rw [hX, hV, hG, hS]
        exact pz_st (k := 0) hI ((by rw [s3_k (by decide), s3_k (by decide), s3_k (by decide), s3_k (by decide), s3_k (by decide), s3_k (by decide), s3_k (by decide), s3_k (by decide), s3_k (by decide), s3_k (by decide)]; exact s3_s)) rfl (fun _ => rfl) (p_ph ((by rw [s3_k (by decide), s3_k (by decide), s3_k (by decide), s3_k (by decide), s3_k (by decide), s3_k (by decide)]; exact Z_group_c (by decide)))) (p_pb (fun _ _ => (by rw [s3_k (by decide), s3_k (by decide), s3_k (by decide), s3_k (by decide), s3_k (by decide), s3_k (by decide), s3_k (by decide), s3_k (by decide), s3_k (by decide), s3_k (by decide), s3_k (by decide)]))) (p_pw (fun _ _ => (by rw [s3_k (by decide), s3_k (by decide), s3_k (by decide), s3_k (by decide), s3_k (by decide), s3_k (by decide), s3_k (by decide), s3_k (by decide), s3_k (by decide), s3_k (by decide), s3_k (by decide)])))
      · have d1 : ¬ g 1 0 0 < 5 := by rw [i32_lt, show (5 : Int32).toInt = 5 from by decide]; exact d
        have d2 : g 1 0 0 = 5 := Int32.toInt_inj.mp (by rw [show (5 : Int32).toInt = 5 from by decide]; omega)
        have hG : S_X11_addGroup g u x = g := by simp only [S_X11_addGroup, b1, c1, c2, d0, d1, ↓reduceIte]
        have hX : X_X11_addGroup g u x = 3 := by simp only [X_X11_addGroup, b1, c1, c2, d0, d1, ↓reduceIte]
        rw [hG, hX]
        exact pz_ro h (k := 3) (by simp only [S_X12_addGroup, b2, c3, e3, if_pos d2, ↓reduceIte, d10, S_X12_isWrong]) rfl (fun q => absurd q (by decide))
    · have c3 : V_X12_isBetween m x 1 40 = 0 := isB0 (by rw [k1, k40]; exact c)
      have hX : X_X11_addGroup g u x = 2 ∧ S_X11_addGroup g u x = g := by
        unfold X_X11_addGroup S_X11_addGroup
        rw [if_pos b1, if_pos b1]
        by_cases c1 : x < 1
        · rw [if_pos c1, if_pos c1]; exact ⟨rfl, rfl⟩
        · have c2 : ¬ x ≤ 40 := fun q => c (by rw [i32_lt, k1] at c1; rw [i32_le, k40] at q; omega)
          rw [if_neg c1, if_neg c2, if_neg c1, if_neg c2]; exact ⟨rfl, rfl⟩
      rw [hX.1, hX.2]
      exact pz_ro h (k := 2) (by simp only [S_X12_addGroup, b2, c3, ↓reduceIte, d10, S_X12_isWrong]) rfl (fun q => absurd q (by decide))
  · have hG : S_X11_addGroup g u x = g := by simp only [S_X11_addGroup, b1, n10, ↓reduceIte]
    have hX : X_X11_addGroup g u x = 1 := by simp only [X_X11_addGroup, b1, n10, ↓reduceIte]
    rw [hG, hX]
    exact pz_ro h (k := 1) (by simp only [S_X12_addGroup, b2, ↓reduceIte, d10, S_X12_isWrong]) rfl (fun q => absurd q (by decide))
