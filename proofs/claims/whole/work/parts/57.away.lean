theorem appE {g : vS} {v : Int32} (h0 : 0 ≤ (g 4 0 0).toInt) (h1 : (g 4 0 0).toInt < 300) : S_X5_append g v = s3 (s3 g 80 (g 4 0 0).toNatClampNeg 0 v) 4 0 0 (g 4 0 0 + 1) := by
  unfold S_X5_append
  rw [if_neg (by rw [i32_lt, i00]; omega), if_neg (by rw [i32_le, show (300 : Int32).toInt = 300 from by decide]; omega)]
theorem fullE {n : Nat} {g m : vS} (h : vInv n g m) : (V_X5_isFull g = 0 ∧ V_X12_isFull m = 0 ∧ 0 ≤ (g 4 0 0).toInt ∧ (g 4 0 0).toInt < 300) ∨ (V_X5_isFull g = 1 ∧ V_X12_isFull m = 1) := by
  have b := bL h
  have e := eL h
  unfold V_X5_isFull V_X12_isFull
  rw [e]
  by_cases c : (g 4 0 0).toInt < 300
  · refine Or.inl ⟨if_pos (by rw [i32_lt, show (300 : Int32).toInt = 300 from by decide]; exact c), if_neg (fun q => ?_), b.1, c⟩
    rw [q] at c; exact absurd c (by decide)
  · refine Or.inr ⟨if_neg (by rw [i32_lt, show (300 : Int32).toInt = 300 from by decide]; exact c), if_pos ?_⟩
    apply Int32.toInt_inj.mp
    rw [show (300 : Int32).toInt = 300 from by decide]; omega
theorem rFz_53 {g : vS} {a b : Nat} {v w z : Int32} (h : rFz g) (c : (a : Int) < (g 2 0 0).toInt) : rFz (s3 (s3 (s3 g 53 a 0 v) 80 b 0 w) 4 0 0 z) := by
  intro f k hf
  rw [show s3 (s3 (s3 g 53 a 0 v) 80 b 0 w) 4 0 0 z 2 0 0 = g 2 0 0 from (s3_k (by decide)).trans ((s3_k (by decide)).trans (s3_k (by decide)))] at hf
  have q := h f k hf
  refine ⟨((s3_k (by decide)).trans ((s3_k (by decide)).trans (s3_k (by decide)))).trans q.1, ((s3_k (by decide)).trans ((s3_k (by decide)).trans (s3_k (by decide)))).trans q.2.1, ((s3_k (by decide)).trans ((s3_k (by decide)).trans (s3_k (by decide)))).trans q.2.2.1, ((s3_k (by decide)).trans (s3_k (by decide))).trans ((s3_i (by omega)).trans q.2.2.2.1), ((s3_k (by decide)).trans ((s3_k (by decide)).trans (s3_k (by decide)))).trans q.2.2.2.2⟩
theorem rLg_1 {g : vS} (h : 0 ≤ (g 4 0 0).toInt) (h1 : (g 4 0 0).toInt < 300) {G : vS} (e : G 4 0 0 = g 4 0 0 + 1) : rLg G := by
  unfold rLg
  rw [e, q_add1 (by omega)]; omega
theorem pz_throwAway : PZ_throwAway vInv := by
  intro n g m h hn u x
  have e48 := vE_ h (a := 40) (b := 48) (by decide)
  have e55 := vE_ h (a := 50) (b := 55) (by decide)
  have e68 := vE_ h (a := 53) (b := 68) (by decide)
  have e11 := eL h
  rcases nU h u with ⟨a1, a2, a3, a4, a5, a6, a7⟩ | ⟨a1, a2, -⟩
  · rcases nF h x with ⟨b1, b2, b3, b4, b5, b6, b7⟩ | ⟨b1, b2, -⟩
    · by_cases c1 : u = g 40 (g 50 x.toNatClampNeg 0).toNatClampNeg 0
      · by_cases c2 : g 53 x.toNatClampNeg 0 = 0
        · rcases fullE h with ⟨d1, d2, d3, d4⟩ | ⟨d1, d2⟩
          · have hS : S_X12_throwAway m u x = s3 (s3 (s3 (s3 m 1 0 0 0) 68 x.toNatClampNeg 0 1) 73 (g 4 0 0).toNatClampNeg 0 (pMix 300 x)) 11 0 0 (g 4 0 0 + 1) := by
              have e : s3 (s3 m 1 0 0 0) 68 x.toNatClampNeg 0 1 11 0 0 = g 4 0 0 := ((s3_k (by decide)).trans (s3_k (by decide))).trans e11
              simp only [S_X12_throwAway, a2, b2, e48, e55, ← c1, e68, c2, d2, ↓reduceIte, d10]
              unfold S_X12_adds
              rw [show S_X12_isWrong m 0 = s3 m 1 0 0 0 from rfl, e]
            have hG : S_X11_throwAway g u x = s3 (s3 (s3 g 53 x.toNatClampNeg 0 1) 80 (g 4 0 0).toNatClampNeg 0 (pMix 300 x)) 4 0 0 (g 4 0 0 + 1) := by
              have e : s3 g 53 x.toNatClampNeg 0 1 4 0 0 = g 4 0 0 := s3_k (by decide)
              simp only [S_X11_throwAway, a1, b1, ← c1, c2, d1, ↓reduceIte]
              rw [appE (by rw [e]; exact d3) (by rw [e]; exact d4), e]
            have hX : X_X11_throwAway g u x = 0 := by simp only [X_X11_throwAway, a1, b1, ← c1, c2, d1, ↓reduceIte]
            have hV : V_X11_throwAway g u x = V_X12_throwAway m u x := by
              have e1 : V_X4_partCount (S_X5_append (s3 g 53 x.toNatClampNeg 0 1) (pMix 300 x)) x.toNatClampNeg = V_X4_partCount g x.toNatClampNeg := by
                have e : s3 g 53 x.toNatClampNeg 0 1 4 0 0 = g 4 0 0 := s3_k (by decide)
                rw [appE (by rw [e]; exact d3) (by rw [e]; exact d4)]
                exact partCount_k (fun i j => (s3_k (by decide)).trans ((s3_k (by decide)).trans (s3_k (by decide)))) _ _ _
              have e2 : V_X12_partsOf (S_X12_adds (s3 (S_X12_isWrong m 0) 68 x.toNatClampNeg 0 1) (pMix 300 x)) x = V_X12_partsOf m x := partsOf_m (fun i j => (s3_k (by decide)).trans ((s3_k (by decide)).trans ((s3_k (by decide)).trans (s3_k (by decide)))))
              simp only [V_X11_throwAway, V_X12_throwAway, a1, a2, b1, b2, e48, e55, ← c1, e68, c2, d1, d2, ↓reduceIte, d10]
              rw [e1, e2, pcE h.2.2.2.2.2.2.2.2.2.1]
            rw [hS, hG, hX, hV]
            refine pz_st (k := 0) ?_ (((s3_k (by decide)).trans ((s3_k (by decide)).trans (s3_k (by decide)))).trans s3_s) rfl (fun _ => rfl) (p_ph ((s3_k (by decide)).trans ((s3_k (by decide)).trans (s3_k (by decide))))) (p_pb (fun _ _ => (s3_k (by decide)).trans ((s3_k (by decide)).trans ((s3_k (by decide)).trans (s3_k (by decide)))))) (p_pw (fun _ _ => (s3_k (by decide)).trans ((s3_k (by decide)).trans ((s3_k (by decide)).trans (s3_k (by decide))))))
            obtain ⟨hE, hrU, hrUz, hrD, hrG, hrGz, hrK, hrF, hrFz, hrP, hrV, hrLg, hrW, hrC, hrS, hrQ, hrT, hrX, hrH, hrJ, hrN⟩ := h
            exact ⟨rE_s (by decide) (by decide) (rE_s (by decide) (by decide) (rE_s (by decide) (by decide) (rE_m (by decide) hE))), rU_k (fun c hc i j => (s3_k (nm hc (by decide))).trans ((s3_k (nm hc (by decide))).trans (s3_k (nm hc (by decide)))))  hrU, rUz_k (fun c hc i j => (s3_k (nm hc (by decide))).trans ((s3_k (nm hc (by decide))).trans (s3_k (nm hc (by decide)))))  hrUz, rD_k (fun c hc i j => (s3_k (nm hc (by decide))).trans ((s3_k (nm hc (by decide))).trans (s3_k (nm hc (by decide)))))  hrD, rG_k (fun c hc i j => (s3_k (nm hc (by decide))).trans ((s3_k (nm hc (by decide))).trans (s3_k (nm hc (by decide)))))  hrG, rGz_k (fun c hc i j => (s3_k (nm hc (by decide))).trans ((s3_k (nm hc (by decide))).trans (s3_k (nm hc (by decide)))))  hrGz, rK_k (fun c hc i j => (s3_k (nm hc (by decide))).trans ((s3_k (nm hc (by decide))).trans (s3_k (nm hc (by decide))))) (fun c hc i j => (s3_k (nm hc (by decide))).trans ((s3_k (nm hc (by decide))).trans ((s3_k (nm hc (by decide))).trans (s3_k (nm hc (by decide)))))) hrK, rF_k (fun c hc i j => (s3_k (nm hc (by decide))).trans ((s3_k (nm hc (by decide))).trans (s3_k (nm hc (by decide))))) (fun c hc i j => (s3_k (nm hc (by decide))).trans ((s3_k (nm hc (by decide))).trans ((s3_k (nm hc (by decide))).trans (s3_k (nm hc (by decide)))))) hrF, rFz_53 hrFz (by omega), rP_k (fun c hc i j => (s3_k (nm hc (by decide))).trans ((s3_k (nm hc (by decide))).trans (s3_k (nm hc (by decide))))) (fun c hc i j => (s3_k (nm hc (by decide))).trans ((s3_k (nm hc (by decide))).trans ((s3_k (nm hc (by decide))).trans (s3_k (nm hc (by decide)))))) hrP, rV_k (fun c hc i j => (s3_k (nm hc (by decide))).trans ((s3_k (nm hc (by decide))).trans (s3_k (nm hc (by decide))))) (fun c hc i j => (s3_k (nm hc (by decide))).trans ((s3_k (nm hc (by decide))).trans ((s3_k (nm hc (by decide))).trans (s3_k (nm hc (by decide)))))) hrV, rLg_1 d3 d4 s3_s, rW_k (fun c hc i j => (s3_k (nm hc (by decide))).trans ((s3_k (nm hc (by decide))).trans (s3_k (nm hc (by decide)))))  hrW, rC_k (fun c hc i j => (s3_k (nm hc (by decide))).trans ((s3_k (nm hc (by decide))).trans (s3_k (nm hc (by decide)))))  hrC, rS_k (fun c hc i j => (s3_k (nm hc (by decide))).trans ((s3_k (nm hc (by decide))).trans (s3_k (nm hc (by decide))))) (fun c hc i j => (s3_k (nm hc (by decide))).trans ((s3_k (nm hc (by decide))).trans ((s3_k (nm hc (by decide))).trans (s3_k (nm hc (by decide)))))) hrS, rQ_k (fun c hc i j => (s3_k (nm hc (by decide))).trans ((s3_k (nm hc (by decide))).trans (s3_k (nm hc (by decide)))))  hrQ, rT_k (fun c hc i j => (s3_k (nm hc (by decide))).trans ((s3_k (nm hc (by decide))).trans (s3_k (nm hc (by decide))))) (fun c hc i j => (s3_k (nm hc (by decide))).trans ((s3_k (nm hc (by decide))).trans ((s3_k (nm hc (by decide))).trans (s3_k (nm hc (by decide)))))) hrT, rX_k (fun c hc i j => (s3_k (nm hc (by decide))).trans ((s3_k (nm hc (by decide))).trans (s3_k (nm hc (by decide)))))  hrX, rH_k (fun c hc i j => (s3_k (nm hc (by decide))).trans ((s3_k (nm hc (by decide))).trans (s3_k (nm hc (by decide))))) (fun c hc i j => (s3_k (nm hc (by decide))).trans ((s3_k (nm hc (by decide))).trans ((s3_k (nm hc (by decide))).trans (s3_k (nm hc (by decide)))))) hrH, rJ_k (fun c hc i j => (s3_k (nm hc (by decide))).trans ((s3_k (nm hc (by decide))).trans (s3_k (nm hc (by decide)))))  hrJ, rN_k (fun c hc i j => (s3_k (nm hc (by decide))).trans ((s3_k (nm hc (by decide))).trans (s3_k (nm hc (by decide))))) (fun c hc i j => (s3_k (nm hc (by decide))).trans ((s3_k (nm hc (by decide))).trans ((s3_k (nm hc (by decide))).trans (s3_k (nm hc (by decide)))))) (rN_le (Nat.le_succ n) hrN)⟩
          · have hG : S_X11_throwAway g u x = g := by simp only [S_X11_throwAway, a1, b1, ← c1, c2, d1, ↓reduceIte, d10]
            have hX : X_X11_throwAway g u x = 3 := by simp only [X_X11_throwAway, a1, b1, ← c1, c2, d1, ↓reduceIte, d10]
            rw [hG, hX]
            exact pz_ro h (k := 3) (by simp only [S_X12_throwAway, a2, b2, e48, e55, ← c1, e68, c2, d2, ↓reduceIte, d10, S_X12_isWrong]) rfl (fun q => absurd q (by decide))
        · have hG : S_X11_throwAway g u x = g := by simp only [S_X11_throwAway, a1, b1, ← c1, c2, ↓reduceIte]
          have hX : X_X11_throwAway g u x = 3 := by simp only [X_X11_throwAway, a1, b1, ← c1, c2, ↓reduceIte]
          rw [hG, hX]
          exact pz_ro h (k := 3) (by simp only [S_X12_throwAway, a2, b2, e48, e55, ← c1, e68, c2, ↓reduceIte, d10, S_X12_isWrong]) rfl (fun q => absurd q (by decide))
      · have c2 : ¬ g 40 (g 50 x.toNatClampNeg 0).toNatClampNeg 0 = u := fun q => c1 q.symm
        have hG : S_X11_throwAway g u x = g := by simp only [S_X11_throwAway, a1, b1, c1, ↓reduceIte]
        have hX : X_X11_throwAway g u x = 4 := by simp only [X_X11_throwAway, a1, b1, c1, ↓reduceIte]
        rw [hG, hX]
        exact pz_ro h (k := 2) (by simp only [S_X12_throwAway, a2, b2, e48, e55, c2, ↓reduceIte, d10, S_X12_isWrong]) rfl (fun q => absurd q (by decide))
    · have hG : S_X11_throwAway g u x = g := by simp only [S_X11_throwAway, a1, b1, n10, ↓reduceIte]
      have hX : X_X11_throwAway g u x = 1 := by simp only [X_X11_throwAway, a1, b1, n10, ↓reduceIte]
      rw [hG, hX]
      exact pz_ro h (k := 1) (by simp only [S_X12_throwAway, a2, b2, ↓reduceIte, d10, S_X12_isWrong]) rfl (fun q => absurd q (by decide))
  · have hG : S_X11_throwAway g u x = g := by simp only [S_X11_throwAway, a1, n10, ↓reduceIte]
    have hX : X_X11_throwAway g u x = 1 := by simp only [X_X11_throwAway, a1, n10, ↓reduceIte]
    rw [hG, hX]
    exact pz_ro h (k := 1) (by simp only [S_X12_throwAway, a2, ↓reduceIte, S_X12_isWrong]) rfl (fun q => absurd q (by decide))
theorem rUz_1 {g : vS} {c w : Nat} {x : Int32} (h : rUz g) (hc : c ≠ 0) (c0 : (w : Int) < (g 0 0 0).toInt) : rUz (s3 g c w 0 x) := by
  intro u k9 hu
  have e : u ≠ w := fun z => by
    have : s3 g c w 0 x 0 0 0 = g 0 0 0 := s3_k (Ne.symm hc)
    rw [this] at hu
    omega
  rw [show s3 g c w 0 x 0 0 0 = g 0 0 0 from s3_k (Ne.symm hc)] at hu
  have a := h u k9 hu
  have f : ∀ k j, s3 g c w 0 x k u j = g k u j := fun k j => s3_i e
  simp only [f]
  exact a
theorem awaySL {g : vS} {u : Int32} : ∀ (k i : Nat) (y : Int32) (q : vS), SL_X12_goAway_46 g u k i y q = q := by
  intro k
  induction k with
  | zero => intro i y q; rfl
  | succ k ih =>
    intro i y q
    unfold SL_X12_goAway_46
    split
    · rfl
    · split <;> rw [ih]
theorem pz_goAway : PZ_goAway vInv := by
  intro n g m h hn u
  have e47 := vE_ h (a := 21) (b := 47) (by decide)
  have e2 := vE_ h (a := 0) (b := 2) (by decide)
  rcases nU h u with ⟨a1, a2, a3, a4, a5, a6, a7⟩ | ⟨a1, a2, -⟩
  · by_cases c : g 21 u.toNatClampNeg 0 = 0
    · have hS : S_X12_goAway m u = s3 (s3 m 1 0 0 0) 47 u.toNatClampNeg 0 1 := by
        simp only [S_X12_goAway, a2, e47, c, ↓reduceIte, d10, awaySL]; rfl
      have hG : S_X11_goAway g u = s3 g 21 u.toNatClampNeg 0 1 := by simp only [S_X11_goAway, a1, c, ↓reduceIte]
      have hX : X_X11_goAway g u = 0 := by simp only [X_X11_goAway, a1, c, ↓reduceIte]
      rw [hS, hG, hX]
      refine pz_st (k := 0) ?_ ((s3_k (by decide)).trans s3_s) rfl (fun _ => ?_) (p_ph (s3_k (by decide))) (p_pb (fun _ _ => (s3_k (by decide)).trans (s3_k (by decide)))) (p_pw (fun _ _ => (s3_k (by decide)).trans (s3_k (by decide))))
      · obtain ⟨hE, hrU, hrUz, hrD, hrG, hrGz, hrK, hrF, hrFz, hrP, hrV, hrLg, hrW, hrC, hrS, hrQ, hrT, hrX, hrH, hrJ, hrN⟩ := h
        exact ⟨rE_s (by decide) (by decide) (rE_m (by decide) hE), rU_k (fun c hc i j => s3_k (nm hc (by decide)))  hrU, rUz_1 hrUz (by decide) (by omega), rD_k (fun c hc i j => s3_k (nm hc (by decide)))  hrD, rG_k (fun c hc i j => s3_k (nm hc (by decide)))  hrG, rGz_k (fun c hc i j => s3_k (nm hc (by decide)))  hrGz, rK_k (fun c hc i j => s3_k (nm hc (by decide))) (fun c hc i j => (s3_k (nm hc (by decide))).trans (s3_k (nm hc (by decide)))) hrK, rF_k (fun c hc i j => s3_k (nm hc (by decide))) (fun c hc i j => (s3_k (nm hc (by decide))).trans (s3_k (nm hc (by decide)))) hrF, rFz_k (fun c hc i j => s3_k (nm hc (by decide)))  hrFz, rP_k (fun c hc i j => s3_k (nm hc (by decide))) (fun c hc i j => (s3_k (nm hc (by decide))).trans (s3_k (nm hc (by decide)))) hrP, rV_k (fun c hc i j => s3_k (nm hc (by decide))) (fun c hc i j => (s3_k (nm hc (by decide))).trans (s3_k (nm hc (by decide)))) hrV, rLg_k (fun c hc i j => s3_k (nm hc (by decide)))  hrLg, rW_k (fun c hc i j => s3_k (nm hc (by decide)))  hrW, rC_k (fun c hc i j => s3_k (nm hc (by decide)))  hrC, rS_k (fun c hc i j => s3_k (nm hc (by decide))) (fun c hc i j => (s3_k (nm hc (by decide))).trans (s3_k (nm hc (by decide)))) hrS, rQ_k (fun c hc i j => s3_k (nm hc (by decide)))  hrQ, rT_k (fun c hc i j => s3_k (nm hc (by decide))) (fun c hc i j => (s3_k (nm hc (by decide))).trans (s3_k (nm hc (by decide)))) hrT, rX_k (fun c hc i j => s3_k (nm hc (by decide)))  hrX, rH_k (fun c hc i j => s3_k (nm hc (by decide))) (fun c hc i j => (s3_k (nm hc (by decide))).trans (s3_k (nm hc (by decide)))) hrH, rJ_k (fun c hc i j => s3_k (nm hc (by decide)))  hrJ, rN_k (fun c hc i j => s3_k (nm hc (by decide))) (fun c hc i j => (s3_k (nm hc (by decide))).trans (s3_k (nm hc (by decide)))) (rN_le (Nat.le_succ n) hrN)⟩
      · simp only [V_X11_goAway, V_X12_goAway, a1, a2, e47, c, ↓reduceIte, d10]
        obtain ⟨-, ⟨u1, u2, u3, -⟩, -⟩ := h
        have L : ∀ (k i : Nat) (y : Int32), i + k ≤ 7 → VL_X11_usersAway_4 (s3 g 21 u.toNatClampNeg 0 1) k i y = VL_X12_goAway_46 m u k i y (s3 (S_X12_isWrong m 0) 47 u.toNatClampNeg 0 1) := by
          intro k
          induction k with
          | zero => intro i y _; rfl
          | succ k ih =>
            intro i y hk
            have ei : (nI i).toInt = (i : Int) := nI_toInt (by omega)
            unfold VL_X11_usersAway_4 VL_X12_goAway_46
            have r0 : s3 g 21 u.toNatClampNeg 0 1 0 0 0 = g 0 0 0 := s3_k (by decide)
            have r1 : s3 g 21 u.toNatClampNeg 0 1 103 i 0 = g 103 i 0 := s3_k (by decide)
            have r2 : s3 (S_X12_isWrong m 0) 47 u.toNatClampNeg 0 1 47 i 0 = s3 g 21 u.toNatClampNeg 0 1 21 i 0 := by
              by_cases z : i = u.toNatClampNeg
              · rw [← z, s3_s, s3_s]
              · rw [s3_i z, s3_i z, show S_X12_isWrong m 0 = s3 m 1 0 0 0 from rfl, s3_k (by decide), e47]
            rw [r0, r1, r2, e2]
            by_cases d : g 0 0 0 ≤ nI i
            · rw [if_pos d, if_pos d]
            · rw [if_neg d, if_neg d]
              rw [i32_le, ei] at d
              have d2 : ¬ 6 ≤ nI i := by rw [i32_le, ei, show (6 : Int32).toInt = 6 from by decide]; omega
              have d3 : ¬ g 103 i 0 = 0 := fun q => by have := (u3 i).mp q; omega
              rw [if_neg d2, if_neg d3]
              by_cases z : s3 g 21 u.toNatClampNeg 0 1 21 i 0 = 0
              · rw [if_pos z, if_pos z, ih _ _ (by omega), Int32.add_zero]
              · rw [if_neg z, if_neg z, ih _ _ (by omega)]
        exact L _ _ _ (by omega)
    · have hG : S_X11_goAway g u = g := by simp only [S_X11_goAway, a1, c, ↓reduceIte]
      have hX : X_X11_goAway g u = 3 := by simp only [X_X11_goAway, a1, c, ↓reduceIte]
      rw [hG, hX]
      exact pz_ro h (k := 2) (by simp only [S_X12_goAway, a2, e47, c, ↓reduceIte, d10, S_X12_isWrong]) rfl (fun q => absurd q (by decide))
  · have hG : S_X11_goAway g u = g := by simp only [S_X11_goAway, a1, n10, ↓reduceIte]
    have hX : X_X11_goAway g u = 1 := by simp only [X_X11_goAway, a1, n10, ↓reduceIte]
    rw [hG, hX]
    exact pz_ro h (k := 1) (by simp only [S_X12_goAway, a2, ↓reduceIte, S_X12_isWrong]) rfl (fun q => absurd q (by decide))
