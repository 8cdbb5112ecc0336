theorem pz_load : PZ_load vInv := by
  intro n g m h hn x
  have e49 := vE_ h (a := 41) (b := 49) (by decide)
  rcases nG h x with ⟨a1, a2, a3, a4, a5, a6, a7⟩ | ⟨a1, a2, -⟩
  · refine pz_ro h (k := 0) ?_ ?_ ?_
    · simp only [S_X12_load, a2, S_X12_isWrong, ↓reduceIte, d10]
    · simp only [X_X11_load, a1, ↓reduceIte]; rfl
    · intro _
      have q := (h.2.2.2.2.1.2.2.2.1 x.toNatClampNeg (by omega)).2.2.1
      have c : ¬ g 41 x.toNatClampNeg 0 ≤ 0 := by rw [i32_le, i00]; omega
      have e : V_X12_partsIn (S_X12_isWrong m 0) x = V_X11_partsOf g x.toNatClampNeg := (partsIn_w (m := m) (fun _ _ => s3_k (by decide)) (fun _ _ => s3_k (by decide)) (fun _ _ => s3_k (by decide))).trans (partsE h a3 a4)
      simp only [V_X11_load, V_X12_load, V_X11_usedShare, a1, a2, c, e, e49, ↓reduceIte, d10]
  · refine pz_ro h (k := 1) ?_ ?_ ?_
    · simp only [S_X12_load, a2, S_X12_isWrong, ↓reduceIte]
    · simp only [X_X11_load, a1, n10, ↓reduceIte]; rfl
    · intro q; exact absurd q (by simp only [X_X11_load, a1, n10, ↓reduceIte]; decide)
theorem pz_meanTold : PZ_meanTold vInv := by
  intro n g m h hn
  have e9 := vE_ h (a := 8) (b := 9) (by decide)
  have e10 := vE_ h (a := 9) (b := 10) (by decide)
  have hN : 0 ≤ (g 9 0 0).toInt := by
    obtain ⟨-, -, -, -, -, -, -, -, -, -, -, -, -, -, -, -, -, -, -, -, hN⟩ := h
    exact hN.2.2.1
  by_cases c : g 9 0 0 = 0
  · have c2 : g 9 0 0 ≤ 0 := by rw [c]; decide
    have hX : X_X11_meanTold g = 6 := by unfold X_X11_meanTold; rw [if_pos c]
    rw [hX]
    exact pz_ro h (k := 1) (by simp only [S_X12_meanTold, e10, c2, S_X12_isWrong, ↓reduceIte]) rfl (fun q => absurd q (by decide))
  · have c2 : ¬ g 9 0 0 ≤ 0 := by
      rw [i32_le, i00]
      intro q
      exact c (Int32.toInt_inj.mp (by rw [i00]; omega))
    have hX : X_X11_meanTold g = 0 := by unfold X_X11_meanTold; rw [if_neg c]
    rw [hX]
    refine pz_ro h (k := 0) (by simp only [S_X12_meanTold, e10, c2, S_X12_isWrong, ↓reduceIte]) rfl (fun _ => ?_)
    simp only [V_X11_meanTold, V_X12_meanTold, V_X10_meanFiles, e9, e10, c, c2, ↓reduceIte]
