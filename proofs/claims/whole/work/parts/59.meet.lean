theorem pz_meet : PZ_meet vInv := by
  intro n g m h hn u x
  have e42 := vE_ h (a := 22) (b := 42) (by decide)
  have e43 := vE_ h (a := 23) (b := 43) (by decide)
  have e44 := vE_ h (a := 24) (b := 44) (by decide)
  have hw := vInv_w (k := 0) h
  rcases nU h u with ⟨a1, a2, a3, a4, a5, a6, a7⟩ | ⟨a1, a2, -⟩
  · rcases nU h x with ⟨b1, b2, b3, b4, b5, b6, b7⟩ | ⟨b1, b2, -⟩
    · by_cases hux : u = x
      · have hG : S_X11_meet g u x = g := by unfold S_X11_meet; rw [if_pos a1, if_pos b1, if_pos hux]
        have hX : X_X11_meet g u x = 2 := by unfold X_X11_meet; rw [if_pos a1, if_pos b1, if_pos hux]
        rw [hG, hX]
        refine pz_ro h (k := 2) ?_ rfl (fun q => absurd q (by decide))
        unfold S_X12_meet; rw [if_neg (by rw [a2]; decide), if_neg (by rw [b2]; decide), if_pos hux]; rfl
      · have hX : X_X11_meet g u x = 0 := by unfold X_X11_meet; rw [if_pos a1, if_pos b1, if_neg hux]
        have hz : ∀ M : vS, M = s3 m 1 0 0 0 → ((s3 (s3 M 44 u.toNatClampNeg 0 (g 24 u.toNatClampNeg 0 + 1)) 44 x.toNatClampNeg 0) = s3 (s3 M 44 u.toNatClampNeg 0 (g 24 u.toNatClampNeg 0 + 1)) 44 x.toNatClampNeg 0) := fun _ _ => rfl
        have ex : (s3 (S_X12_isWrong m 0) 44 u.toNatClampNeg 0 (g 24 u.toNatClampNeg 0 + 1)) 44 x.toNatClampNeg 0 = (s3 g 24 u.toNatClampNeg 0 (g 24 u.toNatClampNeg 0 + 1)) 24 x.toNatClampNeg 0 := by
          by_cases z : x.toNatClampNeg = u.toNatClampNeg
          · rw [z, s3_s, s3_s]
          · rw [s3_i z, s3_i z, show S_X12_isWrong m 0 = s3 m 1 0 0 0 from rfl, s3_k (by decide), e44]
        have al : (S_X11_meet g u x = g ∧ S_X12_meet m u x = s3 m 1 0 0 0 ∧ V_X11_meet g u x = V_X12_meet m u x) ∨ (S_X11_meet g u x = s3 (s3 g 24 u.toNatClampNeg 0 (g 24 u.toNatClampNeg 0 + 1)) 24 x.toNatClampNeg 0 ((s3 g 24 u.toNatClampNeg 0 (g 24 u.toNatClampNeg 0 + 1)) 24 x.toNatClampNeg 0 + 1) ∧ S_X12_meet m u x = s3 (s3 (s3 m 1 0 0 0) 44 u.toNatClampNeg 0 (g 24 u.toNatClampNeg 0 + 1)) 44 x.toNatClampNeg 0 ((s3 g 24 u.toNatClampNeg 0 (g 24 u.toNatClampNeg 0 + 1)) 24 x.toNatClampNeg 0 + 1) ∧ V_X11_meet g u x = V_X12_meet m u x) := by
          unfold S_X11_meet S_X12_meet V_X11_meet V_X12_meet
          simp only [a1, a2, b1, b2, hux, e42, e43, e44, headE h, ex, ↓reduceIte, d10]
          by_cases c1 : g 22 u.toNatClampNeg 0 = g 22 x.toNatClampNeg 0
          · by_cases c2 : g 23 u.toNatClampNeg 0 = g 23 x.toNatClampNeg 0
            · simp only [if_pos c1, if_pos c2]
              exact Or.inl ⟨by first | rfl | trivial, by first | rfl | trivial, by first | rfl | trivial⟩
            · by_cases c3 : V_X11_isHeadInLog g u.toNatClampNeg = 0
              · simp only [if_pos c1, if_neg c2, if_pos c3]
                exact Or.inr ⟨by first | rfl | trivial, by first | rfl | trivial, by first | rfl | trivial⟩
              · by_cases c4 : V_X11_isHeadInLog g x.toNatClampNeg = 0
                · simp only [if_pos c1, if_neg c2, if_neg c3, if_pos c4]
                  exact Or.inr ⟨by first | rfl | trivial, by first | rfl | trivial, by first | rfl | trivial⟩
                · simp only [if_pos c1, if_neg c2, if_neg c3, if_neg c4]
                  exact Or.inl ⟨by first | rfl | trivial, by first | rfl | trivial, by first | rfl | trivial⟩
          · by_cases c3 : V_X11_isHeadInLog g u.toNatClampNeg = 0
            · simp only [if_neg c1, if_pos c3]
              exact Or.inr ⟨by first | rfl | trivial, by first | rfl | trivial, by first | rfl | trivial⟩
            · by_cases c4 : V_X11_isHeadInLog g x.toNatClampNeg = 0
              · simp only [if_neg c1, if_neg c3, if_pos c4]
                exact Or.inr ⟨by first | rfl | trivial, by first | rfl | trivial, by first | rfl | trivial⟩
              · simp only [if_neg c1, if_neg c3, if_neg c4]
                exact Or.inl ⟨by first | rfl | trivial, by first | rfl | trivial, by first | rfl | trivial⟩
        rcases al with ⟨hG, hS, hV⟩ | ⟨hG, hS, hV⟩
        · rw [hG, hX, hV]
          exact pz_ro h (k := 0) hS rfl (fun _ => rfl)
        · rw [hS, hG, hX, hV]
          have hc : (x.toNatClampNeg : Int) < (s3 g 24 u.toNatClampNeg 0 (g 24 u.toNatClampNeg 0 + 1) 0 0 0).toInt := by rw [s3_k (by decide)]; omega
          exact pz_st (k := 0) (vInv_alarm (vInv_alarm hw (by omega)) hc) ((s3_k (by decide)).trans ((s3_k (by decide)).trans s3_s)) rfl (fun _ => rfl) (p_ph ((s3_k (by decide)).trans (s3_k (by decide)))) (p_pb (fun _ _ => (s3_k (by decide)).trans ((s3_k (by decide)).trans (s3_k (by decide))))) (p_pw (fun _ _ => (s3_k (by decide)).trans ((s3_k (by decide)).trans (s3_k (by decide)))))
    · have hG : S_X11_meet g u x = g := by simp only [S_X11_meet, a1, b1, n10, ↓reduceIte]
      have hX : X_X11_meet g u x = 1 := by simp only [X_X11_meet, a1, b1, n10, ↓reduceIte]
      rw [hG, hX]
      exact pz_ro h (k := 1) (by simp only [S_X12_meet, a2, b2, ↓reduceIte, d10, S_X12_isWrong]) rfl (fun q => absurd q (by decide))
  · have hG : S_X11_meet g u x = g := by simp only [S_X11_meet, a1, n10, ↓reduceIte]
    have hX : X_X11_meet g u x = 1 := by simp only [X_X11_meet, a1, n10, ↓reduceIte]
    rw [hG, hX]
    exact pz_ro h (k := 1) (by simp only [S_X12_meet, a2, ↓reduceIte, S_X12_isWrong]) rfl (fun q => absurd q (by decide))
