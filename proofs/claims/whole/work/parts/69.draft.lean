theorem rW_tell {g : vS} {K : Nat} {t x : Int32} (h : rW g) (k : (g 3 0 0).toInt < 60) (hx : 0 ≤ x.toInt ∧ x.toInt < 20) : rW (s3 (s3 (s3 g 70 K 0 t) 71 K 0 x) 3 0 0 (g 3 0 0 + 1)) := by
  obtain ⟨h1, h2, h3, h4⟩ := h
  have e : (g 3 0 0 + 1).toInt = (g 3 0 0).toInt + 1 := q_add1 (by omega)
  have n3 : s3 (s3 (s3 g 70 K 0 t) 71 K 0 x) 3 0 0 (g 3 0 0 + 1) 3 0 0 = g 3 0 0 + 1 := s3_s
  unfold rW
  rw [n3, e]
  refine ⟨by omega, by omega, fun k => ?_, fun f => ?_⟩
  · rw [s3_k (by decide)]
    by_cases c : k = K
    · rw [c, s3_s]; exact hx
    · rw [s3_i c, s3_k (by decide)]; exact h3 k
  · rw [s3_k (by decide), s3_k (by decide), s3_k (by decide)]; exact h4 f
theorem keptE {g M : vS} {x y : Int32} (h5 : M 5 0 0 = g 3 0 0) (h69 : ∀ k, M 69 k 0 = g 70 k 0) (h70 : ∀ k, M 70 k 0 = g 71 k 0) (b : (g 3 0 0).toInt ≤ 60) : V_X12_isKept M x y = V_X10_keeps g x y := by
  have L : ∀ (k i : Nat) (a : Int32), i + k = 61 → i ≤ 60 → (a = 0 ∨ a = 1) → VL_X12_isKept_5 M x y k i a = if a = 0 then VL_X10_keeps_2 g x y k i else 1 := by
    intro k
    induction k with
    | zero => intro i a hh hi; exfalso; omega
    | succ k ih =>
      intro i a hh hi ha
      have ei : (nI i).toInt = (i : Int) := nI_toInt (by omega)
      unfold VL_X12_isKept_5 VL_X10_keeps_2
      rw [h5, h69, h70]
      by_cases d : g 3 0 0 ≤ nI i
      · rw [if_pos d, if_pos d]
        rcases ha with rfl | rfl
        · rw [if_pos rfl]
        · rw [if_neg (by decide)]
      · have d2 : ¬ 60 ≤ nI i := by rw [i32_le, ei] at d; rw [i32_le, ei, show (60 : Int32).toInt = 60 from by decide]; omega
        rw [if_neg d, if_neg d, if_neg d2]
        rw [i32_le, ei] at d
        have I0 := fun a ha => ih (i + 1) a (by omega) (by omega) ha
        have z0 : VL_X12_isKept_5 M x y k (i + 1) (a ||| 0) = if a = 0 then VL_X10_keeps_2 g x y k (i + 1) else 1 := by
          rcases ha with rfl | rfl
          · exact I0 _ (Or.inl (by decide))
          · exact I0 _ (Or.inr (by decide))
        by_cases c1 : g 70 i 0 = x
        · rw [if_pos c1, if_pos c1]
          by_cases c2 : g 71 i 0 = y
          · rw [if_pos c2, if_pos c2, ite_self]
            rcases ha with rfl | rfl
            · exact (I0 _ (Or.inr (by decide))).trans (if_neg (by decide))
            · exact (I0 _ (Or.inr (by decide))).trans (if_neg (by decide))
          · rw [if_neg c2, if_neg c2]; exact z0
        · rw [if_neg c1, if_neg c1]; exact z0
  exact (L 61 0 0 (by omega) (by omega) (Or.inl rfl)).trans (if_pos rfl)
theorem tokE {n : Nat} {g m M : vS} (h : vInv n g m) {f : Nat} (hf : (f : Int) < (g 2 0 0).toInt) {e z : Int32} : V_X12_token M (g 50 f 0) e z = V_X3_tokenOf g (g 50 f 0).toNatClampNeg e z := by
  have q := grpE h hf
  have a := tnI q.1
  obtain ⟨-, -, -, -, ⟨-, -, -, g4, -⟩, -⟩ := h
  unfold V_X12_token V_X3_tokenOf
  rw [(g4 _ (by omega)).2.1, q_nI q.1]
theorem pz_tell : PZ_tell vInv := by
  intro n g m h hn u x y
  have e52 := vE_ h (a := 44) (b := 52) (by decide)
  have e55 := vE_ h (a := 50) (b := 55) (by decide)
  have e50 := vE_ h (a := 42) (b := 50) (by decide)
  have e5 := vE_ h (a := 3) (b := 5) (by decide)
  have e69 := vE_ h (a := 70) (b := 69) (by decide)
  have e70 := vE_ h (a := 71) (b := 70) (by decide)
  have bW : 0 ≤ (g 3 0 0).toInt ∧ (g 3 0 0).toInt ≤ 60 := by
    obtain ⟨-, -, -, -, -, -, -, -, -, -, -, -, hW, -⟩ := h
    exact ⟨hW.1, hW.2.1⟩
  have g2 : (g 2 0 0).toInt ≤ 20 := by
    obtain ⟨-, -, -, -, -, -, -, hF, -⟩ := h
    exact hF.2.1
  rcases nU h u with ⟨a1, a2, a3, a4, a5, a6, a7⟩ | ⟨a1, a2, -⟩
  · rcases nF h x with ⟨b1, b2, b3, b4, b5, b6, b7⟩ | ⟨b1, b2, -⟩
    · rcases nWd (g := g) (m := m) y with ⟨c1, c2⟩ | ⟨c1, c2⟩
      · rcases needM h (i := (g 50 x.toNatClampNeg 0).toNatClampNeg) a3 a5 with ⟨d1, d2, d3⟩ | ⟨d1, d2, d3⟩
        · have kE := fun t => keptE (g := g) (M := s3 m 1 0 0 0) (x := t) (y := x) ((s3_k (by decide)).trans (e5 0 0)) (fun k => (s3_k (by decide)).trans (e69 k 0)) (fun k => (s3_k (by decide)).trans (e70 k 0)) bW.2
          have tE := tokE (M := s3 m 1 0 0 0) h (f := x.toNatClampNeg) (by omega) (e := g 42 (g 50 x.toNatClampNeg 0).toNatClampNeg 0) (z := y)
          generalize htk : V_X3_tokenOf g (g 50 x.toNatClampNeg 0).toNatClampNeg (g 42 (g 50 x.toNatClampNeg 0).toNatClampNeg 0) y = t at tE
          have w0 : S_X12_isWrong m 0 = s3 m 1 0 0 0 := rfl
          by_cases f : V_X10_keeps g t x = 0
          · by_cases k : (g 3 0 0).toInt < 60
            · have k1 : V_X10_isFull g = 0 := if_pos (by rw [i32_lt, show (60 : Int32).toInt = 60 from by decide]; exact k)
              have k2 : ¬ g 3 0 0 = 60 := fun q => by rw [q] at k; exact absurd k (by decide)
              have hK : S_X10_keep g t x = s3 (s3 (s3 g 70 (g 3 0 0).toNatClampNeg 0 t) 71 (g 3 0 0).toNatClampNeg 0 x) 3 0 0 (g 3 0 0 + 1) := by
                unfold S_X10_keep
                rw [if_neg (by rw [i32_lt, i00]; omega), if_neg (by rw [i32_le, show (60 : Int32).toInt = 60 from by decide]; omega)]
              have hG : S_X11_tell g u x y = s3 (s3 (s3 g 70 (g 3 0 0).toNatClampNeg 0 t) 71 (g 3 0 0).toNatClampNeg 0 x) 3 0 0 (g 3 0 0 + 1) := by
                simp only [S_X11_tell, a1, b1, c1, d1, htk, f, k1, ↓reduceIte]; exact hK
              have hX : X_X11_tell g u x y = 0 := by simp only [X_X11_tell, a1, b1, c1, d1, htk, f, k1, ↓reduceIte]
              have hS : S_X12_tell m u x y = s3 (s3 (s3 (s3 m 1 0 0 0) 69 (g 3 0 0).toNatClampNeg 0 t) 70 (g 3 0 0).toNatClampNeg 0 x) 5 0 0 (g 3 0 0 + 1) := by
                simp only [S_X12_tell, a2, b2, c2, e55, e50, e5, d3, w0, tE, kE, f, k2, ↓reduceIte, d10]
                rw [show S_X12_isWrong (s3 m 1 0 0 0) 0 = s3 m 1 0 0 0 from s3_33]
              have hV : V_X11_tell g u x y = V_X12_tell m u x y := by
                have v1 : V_X11_tell g u x y = g 3 0 0 + 1 := by
                  simp only [V_X11_tell, a1, b1, c1, d1, htk, f, k1, ↓reduceIte, V_X10_keptCount]
                  rw [hK]; exact s3_s
                have v2 : V_X12_tell m u x y = g 3 0 0 + 1 := by
                  simp only [V_X12_tell, a2, b2, c2, e55, e50, e5, d3, w0, tE, kE, f, k2, ↓reduceIte, d10]
                rw [v1, v2]
              rw [hX, hV, hG, hS]
              refine pz_st (k := 0) ?_ ((s3_k (by decide)).trans ((s3_k (by decide)).trans ((s3_k (by decide)).trans s3_s))) rfl (fun _ => rfl) (p_ph ((s3_k (by decide)).trans ((s3_k (by decide)).trans (s3_k (by decide))))) (p_pb (fun _ _ => (s3_k (by decide)).trans ((s3_k (by decide)).trans ((s3_k (by decide)).trans (s3_k (by decide)))))) (p_pw (fun _ _ => (s3_k (by decide)).trans ((s3_k (by decide)).trans ((s3_k (by decide)).trans (s3_k (by decide))))))
              obtain ⟨hE, hrU, hrUz, hrD, hrG, hrGz, hrK, hrF, hrFz, hrP, hrV, hrLg, hrW, hrC, hrS, hrQ, hrT, hrX, hrH, hrJ, hrN⟩ := h
              exact ⟨rE_s (by decide) (by decide) (rE_s (by decide) (by decide) (rE_s (by decide) (by decide) (rE_m (by decide) hE))), rU_k (fun c hc i j => (s3_k (nm hc (by decide))).trans ((s3_k (nm hc (by decide))).trans (s3_k (nm hc (by decide)))))  hrU, rUz_k (fun c hc i j => (s3_k (nm hc (by decide))).trans ((s3_k (nm hc (by decide))).trans (s3_k (nm hc (by decide)))))  hrUz, rD_k (fun c hc i j => (s3_k (nm hc (by decide))).trans ((s3_k (nm hc (by decide))).trans (s3_k (nm hc (by decide)))))  hrD, rG_k (fun c hc i j => (s3_k (nm hc (by decide))).trans ((s3_k (nm hc (by decide))).trans (s3_k (nm hc (by decide)))))  hrG, rGz_k (fun c hc i j => (s3_k (nm hc (by decide))).trans ((s3_k (nm hc (by decide))).trans (s3_k (nm hc (by decide)))))  hrGz, rK_k (fun c hc i j => (s3_k (nm hc (by decide))).trans ((s3_k (nm hc (by decide))).trans (s3_k (nm hc (by decide))))) (fun c hc i j => (s3_k (nm hc (by decide))).trans ((s3_k (nm hc (by decide))).trans ((s3_k (nm hc (by decide))).trans (s3_k (nm hc (by decide)))))) hrK, rF_k (fun c hc i j => (s3_k (nm hc (by decide))).trans ((s3_k (nm hc (by decide))).trans (s3_k (nm hc (by decide))))) (fun c hc i j => (s3_k (nm hc (by decide))).trans ((s3_k (nm hc (by decide))).trans ((s3_k (nm hc (by decide))).trans (s3_k (nm hc (by decide)))))) hrF, rFz_k (fun c hc i j => (s3_k (nm hc (by decide))).trans ((s3_k (nm hc (by decide))).trans (s3_k (nm hc (by decide)))))  hrFz, rP_k (fun c hc i j => (s3_k (nm hc (by decide))).trans ((s3_k (nm hc (by decide))).trans (s3_k (nm hc (by decide))))) (fun c hc i j => (s3_k (nm hc (by decide))).trans ((s3_k (nm hc (by decide))).trans ((s3_k (nm hc (by decide))).trans (s3_k (nm hc (by decide)))))) hrP, rV_k (fun c hc i j => (s3_k (nm hc (by decide))).trans ((s3_k (nm hc (by decide))).trans (s3_k (nm hc (by decide))))) (fun c hc i j => (s3_k (nm hc (by decide))).trans ((s3_k (nm hc (by decide))).trans ((s3_k (nm hc (by decide))).trans (s3_k (nm hc (by decide)))))) hrV, rLg_k (fun c hc i j => (s3_k (nm hc (by decide))).trans ((s3_k (nm hc (by decide))).trans (s3_k (nm hc (by decide)))))  hrLg, rW_tell hrW k (by omega), rC_k (fun c hc i j => (s3_k (nm hc (by decide))).trans ((s3_k (nm hc (by decide))).trans (s3_k (nm hc (by decide)))))  hrC, rS_k (fun c hc i j => (s3_k (nm hc (by decide))).trans ((s3_k (nm hc (by decide))).trans (s3_k (nm hc (by decide))))) (fun c hc i j => (s3_k (nm hc (by decide))).trans ((s3_k (nm hc (by decide))).trans ((s3_k (nm hc (by decide))).trans (s3_k (nm hc (by decide)))))) hrS, rQ_k (fun c hc i j => (s3_k (nm hc (by decide))).trans ((s3_k (nm hc (by decide))).trans (s3_k (nm hc (by decide)))))  hrQ, rT_k (fun c hc i j => (s3_k (nm hc (by decide))).trans ((s3_k (nm hc (by decide))).trans (s3_k (nm hc (by decide))))) (fun c hc i j => (s3_k (nm hc (by decide))).trans ((s3_k (nm hc (by decide))).trans ((s3_k (nm hc (by decide))).trans (s3_k (nm hc (by decide)))))) hrT, rX_k (fun c hc i j => (s3_k (nm hc (by decide))).trans ((s3_k (nm hc (by decide))).trans (s3_k (nm hc (by decide)))))  hrX, rH_k (fun c hc i j => (s3_k (nm hc (by decide))).trans ((s3_k (nm hc (by decide))).trans (s3_k (nm hc (by decide))))) (fun c hc i j => (s3_k (nm hc (by decide))).trans ((s3_k (nm hc (by decide))).trans ((s3_k (nm hc (by decide))).trans (s3_k (nm hc (by decide)))))) hrH, rJ_k (fun c hc i j => (s3_k (nm hc (by decide))).trans ((s3_k (nm hc (by decide))).trans (s3_k (nm hc (by decide)))))  hrJ, rN_k (fun c hc i j => (s3_k (nm hc (by decide))).trans ((s3_k (nm hc (by decide))).trans (s3_k (nm hc (by decide))))) (fun c hc i j => (s3_k (nm hc (by decide))).trans ((s3_k (nm hc (by decide))).trans ((s3_k (nm hc (by decide))).trans (s3_k (nm hc (by decide)))))) (rN_le (Nat.le_succ n) hrN)⟩
            · have k1 : V_X10_isFull g = 1 := if_neg (by rw [i32_lt, show (60 : Int32).toInt = 60 from by decide]; exact k)
              have k2 : g 3 0 0 = 60 := Int32.toInt_inj.mp (by rw [show (60 : Int32).toInt = 60 from by decide]; omega)
              have hG : S_X11_tell g u x y = g := by simp only [S_X11_tell, a1, b1, c1, d1, htk, f, k1, ↓reduceIte, d10]
              have hX : X_X11_tell g u x y = 3 := by simp only [X_X11_tell, a1, b1, c1, d1, htk, f, k1, ↓reduceIte, d10]
              rw [hG, hX]
              refine pz_ro h (k := 4) ?_ rfl (fun q => absurd q (by decide))
              simp only [S_X12_tell, a2, b2, c2, e55, e50, e5, d3, w0, tE, kE, f, if_pos k2, ↓reduceIte, d10]
              exact s3_33
          · have hG : S_X11_tell g u x y = g := by simp only [S_X11_tell, a1, b1, c1, d1, htk, f, ↓reduceIte]
            have hX : X_X11_tell g u x y = 0 := by simp only [X_X11_tell, a1, b1, c1, d1, htk, f, ↓reduceIte]
            rw [hG, hX]
            refine pz_ro h (k := 0) ?_ rfl (fun _ => ?_)
            · simp only [S_X12_tell, a2, b2, c2, e55, e50, e5, d3, w0, tE, kE, f, ↓reduceIte, d10]
            · simp only [V_X11_tell, V_X12_tell, a1, a2, b1, b2, c1, c2, d1, d3, e55, e50, e5, htk, w0, tE, kE, f, ↓reduceIte, d10, V_X10_keptCount]
        · have hG : S_X11_tell g u x y = g := by simp only [S_X11_tell, a1, b1, c1, d1, n40, ↓reduceIte]
          have hX : X_X11_tell g u x y = 4 := by simp only [X_X11_tell, a1, b1, c1, d1, n40, ↓reduceIte]
          rw [hG, hX]
          exact pz_ro h (k := 3) (by simp only [S_X12_tell, a2, b2, c2, e55, d3, ↓reduceIte, d10, S_X12_isWrong]) rfl (fun q => absurd q (by decide))
      · have hG : S_X11_tell g u x y = g := by simp only [S_X11_tell, a1, b1, c1, n20, ↓reduceIte]
        have hX : X_X11_tell g u x y = 2 := by simp only [X_X11_tell, a1, b1, c1, n20, ↓reduceIte]
        rw [hG, hX]
        exact pz_ro h (k := 2) (by simp only [S_X12_tell, a2, b2, c2, ↓reduceIte, d10, S_X12_isWrong]) rfl (fun q => absurd q (by decide))
    · have hG : S_X11_tell g u x y = g := by simp only [S_X11_tell, a1, b1, n10, ↓reduceIte]
      have hX : X_X11_tell g u x y = 1 := by simp only [X_X11_tell, a1, b1, n10, ↓reduceIte]
      rw [hG, hX]
      exact pz_ro h (k := 1) (by simp only [S_X12_tell, a2, b2, ↓reduceIte, d10, S_X12_isWrong]) rfl (fun q => absurd q (by decide))
  · have hG : S_X11_tell g u x y = g := by simp only [S_X11_tell, a1, n10, ↓reduceIte]
    have hX : X_X11_tell g u x y = 1 := by simp only [X_X11_tell, a1, n10, ↓reduceIte]
    rw [hG, hX]
    exact pz_ro h (k := 1) (by simp only [S_X12_tell, a2, ↓reduceIte, S_X12_isWrong]) rfl (fun q => absurd q (by decide))
/-- a draft laid at place T of user U, those from J on moved down -/
def dR (a : Nat → Int32) (J T : Nat) (v : Int32) : Nat → Int32 := fun k => if k = T then v else if J ≤ k ∧ k < T then a (k + 1) else a k
theorem vInv_draft {n : Nat} {g m G M : vS} {U J T : Nat} {P y w : Int32} (h : vInv n g m) (hU : (U : Int) < (g 0 0 0).toInt) (hT : T < 10) (hP : 0 ≤ P.toInt ∧ P.toInt < 160 ∧ P.toInt < 8 * (g 2 0 0).toInt)
    (hJ : (T = (g 27 U 0).toNatClampNeg ∧ J = T ∧ ∀ j, j < T → g 30 U j ≠ P) ∨ (T + 1 = (g 27 U 0).toNatClampNeg ∧ J ≤ T ∧ g 30 U J = P))
    (hG : ∀ c, c ∉ ([27, 30, 31, 32] : List Nat) → ∀ i j, G c i j = g c i j) (hM : ∀ c, c ∉ ([1, 76, 78, 80, 81] : List Nat) → ∀ i j, M c i j = m c i j)
    (h27 : ∀ i j, G 27 i j = if i = U ∧ j = 0 then nI (T + 1) else g 27 i j) (h81 : ∀ i j, M 81 i j = if i = U ∧ j = 0 then nI (T + 1) else m 81 i j)
    (h30 : ∀ i j, G 30 i j = if i = U then dR (g 30 U) J T P j else g 30 i j) (h31 : ∀ i j, G 31 i j = if i = U then dR (g 31 U) J T y j else g 31 i j) (h32 : ∀ i j, G 32 i j = if i = U then dR (g 32 U) J T w j else g 32 i j)
    (h76 : ∀ i j, M 76 i j = if i = U then dR (m 76 U) J T P j else m 76 i j) (h78 : ∀ i j, M 78 i j = if i = U then dR (m 78 U) J T y j else m 78 i j) (h80 : ∀ i j, M 80 i j = if i = U then dR (m 80 U) J T w j else m 80 i j) : vInv (n + 1) G M := by
  obtain ⟨hE, hrU, hrUz, hrD, hrG, hrGz, hrK, hrF, hrFz, hrP, hrV, hrLg, hrW, hrC, hrS, hrQ, hrT, hrX, hrH, hrJ, hrN⟩ := h
  have r27 := hE (27, 81) (by decide); have r30 := hE (30, 76) (by decide); have r31 := hE (31, 78) (by decide); have r32 := hE (32, 80) (by decide)
  have E' : rE G M := by
    intro q hq i j
    by_cases c0 : q = (27, 81)
    · subst c0; show G 27 i j = M 81 i j
      rw [h27, h81]; split
      · rfl
      · exact r27 i j
    · by_cases c1 : q = (30, 76)
      · subst c1; show G 30 i j = M 76 i j
        rw [h30, h76, show m 76 U = g 30 U from funext fun k => (r30 U k).symm]; split
        · rfl
        · exact r30 i j
      · by_cases c2 : q = (31, 78)
        · subst c2; show G 31 i j = M 78 i j
          rw [h31, h78, show m 78 U = g 31 U from funext fun k => (r31 U k).symm]; split
          · rfl
          · exact r31 i j
        · by_cases c3 : q = (32, 80)
          · subst c3; show G 32 i j = M 80 i j
            rw [h32, h80, show m 80 U = g 32 U from funext fun k => (r32 U k).symm]; split
            · rfl
            · exact r32 i j
          · have k1 : ∀ q ∈ vPairs, q ≠ (27, 81) → q ≠ (30, 76) → q ≠ (31, 78) → q ≠ (32, 80) → q.1 ∉ ([27, 30, 31, 32] : List Nat) ∧ q.2 ∉ ([1, 76, 78, 80, 81] : List Nat) := by decide
            have k2 := k1 q hq c0 c1 c2 c3
            rw [hG _ k2.1, hM _ k2.2]; exact hE q hq i j
  have HUz : rUz G := by
    intro u k hu
    rw [hG 0 (by decide)] at hu
    have e : u ≠ U := by omega
    rw [hG 20 (by decide), hG 21 (by decide), hG 22 (by decide), hG 23 (by decide), hG 24 (by decide), hG 25 (by decide), hG 26 (by decide), h27, h30, h31, h32, if_neg (fun z => e z.1), if_neg e, if_neg e, if_neg e]
    exact hrUz u k hu
  have HD : rD G := by
    obtain ⟨d1, d2, d3, d4⟩ := hrD
    have tC := tnI (d1 U).1
    have eT : (nI (T + 1)).toInt = ((T + 1 : Nat) : Int) := nI_toInt (by omega)
    have c27 : G 27 U 0 = nI (T + 1) := by rw [h27, if_pos ⟨rfl, rfl⟩]
    -- where the entry of a place came from
    have src : ∀ k, k < T → ∃ s, dR (g 30 U) J T P k = g 30 U s ∧ (s : Int) < (g 27 U 0).toInt ∧ g 30 U s ≠ P ∧ (s = k ∧ k < J ∨ s = k + 1 ∧ J ≤ k) := fun k hk => by
      unfold dR
      rw [if_neg (by omega)]
      rcases hJ with ⟨j1, j2, j3⟩ | ⟨j1, j2, j3⟩
      · rw [if_neg (by omega)]
        exact ⟨k, rfl, by omega, j3 k hk, Or.inl ⟨rfl, by omega⟩⟩
      · by_cases c : J ≤ k
        · rw [if_pos ⟨c, hk⟩]
          exact ⟨k + 1, rfl, by omega, fun e => by have := d4 U (k + 1) J (by omega) (by omega) (e.trans j3.symm); omega, Or.inr ⟨rfl, c⟩⟩
        · rw [if_neg (fun z => c z.1)]
          exact ⟨k, rfl, by omega, fun e => by have := d4 U k J (by omega) (by omega) (e.trans j3.symm); omega, Or.inl ⟨rfl, by omega⟩⟩
    have last : dR (g 30 U) J T P T = P := if_pos rfl
    refine ⟨fun u => ?_, fun u k => ?_, fun u k hk => ?_, fun u j k hj hk e => ?_⟩
    · rw [h27]
      by_cases c : u = U
      · rw [if_pos ⟨c, rfl⟩, eT]; omega
      · rw [if_neg (fun z => c z.1)]; exact d1 u
    · rw [h30]
      by_cases c : u = U
      · rw [if_pos c]
        by_cases c2 : k = T
        · rw [c2, last]; omega
        · by_cases c3 : k < T
          · obtain ⟨s, s1, -⟩ := src k c3
            rw [s1]; exact d2 U s
          · unfold dR
            rw [if_neg c2, if_neg (fun z => c3 z.2)]; exact d2 U k
      · rw [if_neg c]; exact d2 u k
    · rw [hG 2 (by decide), h30]
      by_cases c : u = U
      · rw [c, c27, eT] at hk
        rw [if_pos c]
        by_cases c2 : k = T
        · rw [c2, last]; omega
        · obtain ⟨s, s1, s2, -⟩ := src k (by omega)
          rw [s1]; exact d3 U s s2
      · rw [if_neg c]
        rw [h27, if_neg (fun z => c z.1)] at hk
        exact d3 u k hk
    · by_cases c : u = U
      · rw [c, c27, eT] at hj hk
        rw [c, h30, h30, if_pos rfl, if_pos rfl] at e
        by_cases cj : j = T
        · by_cases ck : k = T
          · omega
          · obtain ⟨s, s1, s2, s3, -⟩ := src k (by omega)
            rw [cj, last, s1] at e
            exact absurd e.symm s3
        · obtain ⟨s, s1, s2, s3, s4⟩ := src j (by omega)
          by_cases ck : k = T
          · rw [ck, last, s1] at e
            exact absurd e s3
          · obtain ⟨t, t1, t2, t3, t4⟩ := src k (by omega)
            rw [s1, t1] at e
            have := d4 U s t s2 t2 e
            omega
      · rw [h27, if_neg (fun z => c z.1)] at hj hk
        rw [h30, h30, if_neg c, if_neg c] at e
        exact d4 u j k hj hk e
  exact ⟨E', (rU_k (fun c hc i j => hG c ((by decide : ∀ c ∈ ([0, 22, 25, 26, 28, 103] : List Nat), c ∉ ([27, 30, 31, 32] : List Nat)) c hc) i j)  hrU), HUz, HD, (rG_k (fun c hc i j => hG c ((by decide : ∀ c ∈ ([0, 1, 40, 41, 43, 44, 46, 48, 104] : List Nat), c ∉ ([27, 30, 31, 32] : List Nat)) c hc) i j)  hrG), (rGz_k (fun c hc i j => hG c ((by decide : ∀ c ∈ ([1, 40, 41, 42, 43, 44] : List Nat), c ∉ ([27, 30, 31, 32] : List Nat)) c hc) i j)  hrGz), (rK_k (fun c hc i j => hG c ((by decide : ∀ c ∈ ([1, 42, 47] : List Nat), c ∉ ([27, 30, 31, 32] : List Nat)) c hc) i j) (fun c hc i j => hM c ((by decide : ∀ c ∈ ([54] : List Nat), c ∉ ([1, 76, 78, 80, 81] : List Nat)) c hc) i j) hrK), (rF_k (fun c hc i j => hG c ((by decide : ∀ c ∈ ([1, 2, 42, 50, 51, 61, 62, 63, 66, 105] : List Nat), c ∉ ([27, 30, 31, 32] : List Nat)) c hc) i j) (fun c hc i j => hM c ((by decide : ∀ c ∈ ([13, 59] : List Nat), c ∉ ([1, 76, 78, 80, 81] : List Nat)) c hc) i j) hrF), (rFz_k (fun c hc i j => hG c ((by decide : ∀ c ∈ ([2, 50, 51, 52, 53, 106] : List Nat), c ∉ ([27, 30, 31, 32] : List Nat)) c hc) i j)  hrFz), (rP_k (fun c hc i j => hG c ((by decide : ∀ c ∈ ([11, 42, 50, 56, 57, 58, 59, 60, 64, 65, 67, 106] : List Nat), c ∉ ([27, 30, 31, 32] : List Nat)) c hc) i j) (fun c hc i j => hM c ((by decide : ∀ c ∈ ([59, 61, 63, 65, 67] : List Nat), c ∉ ([1, 76, 78, 80, 81] : List Nat)) c hc) i j) hrP), (rV_k (fun c hc i j => hG c ((by decide : ∀ c ∈ ([51] : List Nat), c ∉ ([27, 30, 31, 32] : List Nat)) c hc) i j) (fun c hc i j => hM c ((by decide : ∀ c ∈ ([61] : List Nat), c ∉ ([1, 76, 78, 80, 81] : List Nat)) c hc) i j) hrV), (rLg_k (fun c hc i j => hG c ((by decide : ∀ c ∈ ([4] : List Nat), c ∉ ([27, 30, 31, 32] : List Nat)) c hc) i j)  hrLg), (rW_k (fun c hc i j => hG c ((by decide : ∀ c ∈ ([3, 71, 72] : List Nat), c ∉ ([27, 30, 31, 32] : List Nat)) c hc) i j)  hrW), (rC_k (fun c hc i j => hG c ((by decide : ∀ c ∈ ([5] : List Nat), c ∉ ([27, 30, 31, 32] : List Nat)) c hc) i j)  hrC), (rS_k (fun c hc i j => hG c ((by decide : ∀ c ∈ ([17, 82, 83] : List Nat), c ∉ ([27, 30, 31, 32] : List Nat)) c hc) i j) (fun c hc i j => hM c ((by decide : ∀ c ∈ ([74] : List Nat), c ∉ ([1, 76, 78, 80, 81] : List Nat)) c hc) i j) hrS), (rQ_k (fun c hc i j => hG c ((by decide : ∀ c ∈ ([1, 2, 41, 48, 50, 105, 106] : List Nat), c ∉ ([27, 30, 31, 32] : List Nat)) c hc) i j)  hrQ), (rT_k (fun c hc i j => hG c ((by decide : ∀ c ∈ ([12, 13, 14, 75] : List Nat), c ∉ ([27, 30, 31, 32] : List Nat)) c hc) i j) (fun c hc i j => hM c ((by decide : ∀ c ∈ ([6, 14, 71] : List Nat), c ∉ ([1, 76, 78, 80, 81] : List Nat)) c hc) i j) hrT), (rX_k (fun c hc i j => hG c ((by decide : ∀ c ∈ ([16, 72, 73] : List Nat), c ∉ ([27, 30, 31, 32] : List Nat)) c hc) i j)  hrX), (rH_k (fun c hc i j => hG c ((by decide : ∀ c ∈ ([1, 2, 11, 42, 44, 50, 60, 65, 85, 86, 106] : List Nat), c ∉ ([27, 30, 31, 32] : List Nat)) c hc) i j) (fun c hc i j => hM c ((by decide : ∀ c ∈ ([54] : List Nat), c ∉ ([1, 76, 78, 80, 81] : List Nat)) c hc) i j) hrH), (rJ_k (fun c hc i j => hG c ((by decide : ∀ c ∈ ([20] : List Nat), c ∉ ([27, 30, 31, 32] : List Nat)) c hc) i j)  hrJ), (rN_k (fun c hc i j => hG c ((by decide : ∀ c ∈ ([0, 1, 8, 9, 11, 42, 43, 51] : List Nat), c ∉ ([27, 30, 31, 32] : List Nat)) c hc) i j) (fun c hc i j => hM c ((by decide : ∀ c ∈ ([6, 63] : List Nat), c ∉ ([1, 76, 78, 80, 81] : List Nat)) c hc) i j) (rN_le (Nat.le_succ n) hrN))⟩
/-- rows moved down by one -/
def shD (l : List Nat) (q : vS) (u j T : Nat) : vS := fun c i k => if c ∈ l ∧ i = u ∧ j ≤ k ∧ k < T then q c i (k + 1) else q c i k
theorem shD_0 {l : List Nat} {q : vS} {u j T : Nat} (h : T ≤ j) : shD l q u j T = q := funext fun c => funext fun i => funext fun k => if_neg (by omega)
theorem shD_1 {a b d : Nat} {q : vS} {u j T : Nat} (ab : a ≠ b) (ad : a ≠ d) (bd : b ≠ d) (h : j < T) : shD [a, b, d] (s3 (s3 (s3 q a u j (q a u (j + 1))) b u j ((q) b u (j + 1))) d u j (q d u (j + 1))) u (j + 1) T = shD [a, b, d] q u j T := funext fun c => funext fun i => funext fun k => by
  have e : ∀ i' k', (i' ≠ u ∨ k' ≠ j ∨ c ∉ [a, b, d]) → s3 (s3 (s3 q a u j (q a u (j + 1))) b u j (q b u (j + 1))) d u j (q d u (j + 1)) c i' k' = q c i' k' := fun i' k' hh => by
    have n : ∀ x ∈ [a, b, d], ¬ (c = x ∧ i' = u ∧ k' = j) := fun x hx z => by
      rcases hh with h1 | h1 | h1
      · exact h1 z.2.1
      · exact h1 z.2.2
      · exact h1 (z.1 ▸ hx)
    have n1 := n a (by simp); have n2 := n b (by simp); have n3 := n d (by simp)
    unfold s3
    rw [if_neg n3, if_neg n2, if_neg n1]
  unfold shD
  by_cases c1 : c ∈ [a, b, d] ∧ i = u ∧ j ≤ k ∧ k < T
  · rw [if_pos c1]
    by_cases c2 : k = j
    · obtain ⟨m1, rfl, m3, m4⟩ := c1
      subst c2
      rw [if_neg (by omega)]
      simp only [List.mem_cons, List.not_mem_nil, or_false] at m1
      rcases m1 with rfl | rfl | rfl
      · rw [s3_k ad, s3_k ab, s3_s]
      · rw [s3_k bd, s3_s]
      · rw [s3_s]
    · rw [if_pos ⟨c1.1, c1.2.1, by omega, c1.2.2.2⟩]
      exact e i (k + 1) (Or.inr (Or.inl (by omega)))
  · rw [if_neg c1, if_neg (fun z => c1 ⟨z.1, z.2.1, by omega, z.2.2.2⟩)]
    refine e i k ?_
    by_cases m1 : c ∈ [a, b, d]
    · by_cases m2 : i = u
      · refine Or.inr (Or.inl (fun z => c1 ⟨m1, m2, by omega, by omega⟩))
      · exact Or.inl m2
    · exact Or.inr (Or.inr m1)
theorem takeNxE {q : vS} {u j : Nat} (h : j < 9) : S_X1_takeNext q u (nI j) = s3 (s3 (s3 q 30 u j (q 30 u (j + 1))) 31 u j (q 31 u (j + 1))) 32 u j (q 32 u (j + 1)) := by
  unfold S_X1_takeNext
  have c1 : ¬ nI j < 0 := by rw [i32_lt, i00, nI_toInt (by omega)]; omega
  have c2 : ¬ (9 : Int32) ≤ nI j := by rw [show (9 : Int32) = nI 9 from rfl, qnI_le (by omega) (by omega)]; omega
  have e : nI j + 1 = nI (j + 1) := by rw [show (1 : Int32) = nI 1 from rfl, qnI_add]
  rw [if_neg c1, if_neg c2, e, show (nI j).toNatClampNeg = j from nI_clamp (by omega), show (nI (j + 1)).toNatClampNeg = j + 1 from nI_clamp (by omega)]
theorem remE {g : vS} {u C : Nat} {x : Int32} (hC : g 27 u 0 = nI C) (hC10 : C ≤ 10) : ∀ (k j : Nat) (q : vS), 10 ≤ j + k → j < C → SL_X1_removeAt_15 g u x k j q = s3 (shD [30, 31, 32] q u j (C - 1)) 27 u 0 (nI (C - 1)) := by
  intro k
  induction k with
  | zero => intro j q hh hj; exfalso; omega
  | succ k ih =>
    intro j q hh hj
    have e1 : nI C - 1 = nI (C - 1) := by rw [show (1 : Int32) = nI 1 from rfl, qnI_sub (by omega)]
    unfold SL_X1_removeAt_15
    rw [hC, e1]
    by_cases c : C ≤ j + 1
    · rw [if_pos (pLe (by omega) (by omega) c), shD_0 (by omega)]
    · rw [if_neg (nLe (by omega) (by omega) c), takeNxE (by omega), ih (j + 1) _ (by omega) (by omega), shD_1 (by decide) (by decide) (by decide) (by omega)]
theorem movE {m : vS} {u x y zz : Int32} {T : Nat} {w : Int32} (hw : m 63 x.toNatClampNeg y.toNatClampNeg = w) (hT : T < 10) : ∀ (k j : Nat) (q : vS), j + k ≤ 22 → T < j + k → j ≤ T → SL_X12_draft_173 m u x y zz k j (nI T) q = s3 (s3 (s3 (s3 (shD [76, 78, 80] q u.toNatClampNeg j T) 76 u.toNatClampNeg T (8 * x + y)) 78 u.toNatClampNeg T zz) 80 u.toNatClampNeg T w) 81 u.toNatClampNeg 0 (nI (T + 1)) ∧ VL_X12_draft_173 m u x y zz k j (nI T) q = nI (T + 1) := by
  intro k
  induction k with
  | zero => intro j q hh hj h2; exfalso; omega
  | succ k ih =>
    intro j q hh hj h2
    have e1 : nI T + 1 = nI (T + 1) := by rw [show (1 : Int32) = nI 1 from rfl, qnI_add]
    unfold SL_X12_draft_173 VL_X12_draft_173
    rw [hw, e1, nI_clamp (by omega)]
    by_cases c : T ≤ j
    · rw [if_pos (pLe (by omega) (by omega) c), if_pos (pLe (by omega) (by omega) c), shD_0 c]; exact ⟨rfl, rfl⟩
    · rw [if_neg (nLe (by omega) (by omega) c), if_neg (nLe (by omega) (by omega) c)]
      have r := ih (j + 1) (s3 (s3 (s3 q 76 u.toNatClampNeg j (q 76 u.toNatClampNeg (j + 1))) 78 u.toNatClampNeg j (q 78 u.toNatClampNeg (j + 1))) 80 u.toNatClampNeg j (q 80 u.toNatClampNeg (j + 1))) (by omega) (by omega) (by omega)
      rw [shD_1 (by decide) (by decide) (by decide) (by omega)] at r
      exact r
theorem idxE {g : vS} {u C : Nat} {x : Int32} (hC : g 27 u 0 = nI C) (hC10 : C ≤ 10) : ∀ (k i : Nat), i + k = 11 → i ≤ C → (∀ j, j < i → g 30 u j ≠ x) → ((∀ j, j < C → g 30 u j ≠ x) ∧ VL_X1_indexOf_2 g u x k i = -1) ∨ (∃ J, J < C ∧ g 30 u J = x ∧ VL_X1_indexOf_2 g u x k i = nI J) := by
  intro k
  induction k with
  | zero => intro i hh hi; exfalso; omega
  | succ k ih =>
    intro i hh hi hn
    unfold VL_X1_indexOf_2
    rw [hC]
    by_cases c : C ≤ i
    · rw [if_pos (pLe (by omega) (by omega) c)]
      exact Or.inl ⟨fun j hj => hn j (by omega), rfl⟩
    · have c2 : ¬ (10 : Int32) ≤ nI i := by rw [show (10 : Int32) = nI 10 from rfl, qnI_le (by omega) (by omega)]; omega
      rw [if_neg (nLe (by omega) (by omega) c), if_neg c2]
      by_cases d : g 30 u i = x
      · rw [if_pos d]; exact Or.inr ⟨i, by omega, d, rfl⟩
      · rw [if_neg d]
        exact ih (i + 1) (by omega) (by omega) (fun j hj => by
          by_cases e : j = i
          · rw [e]; exact d
          · exact hn j (by omega))
def dfV (m : vS) (u x y zz : Int32) (q : vS) (acc : Int32) : Int32 := (if acc = (m 81 (u).toNatClampNeg 0) then (if (m 47 (u).toNatClampNeg 0) = 0 then 0 else (if acc = 10 then 0 else (VL_X12_draft_173 m u x y zz (10 + 1) (acc).toNatClampNeg (acc) (S_X12_isWrong q (0))))) else (if (m 47 (u).toNatClampNeg 0) = 0 then 0 else (VL_X12_draft_173 m u x y zz (10 + 1) (acc).toNatClampNeg (((m 81 (u).toNatClampNeg 0) - 1)) (S_X12_isWrong q (0)))))
def dfS (m : vS) (u x y zz : Int32) (q : vS) (acc : Int32) : vS := (if acc = (m 81 (u).toNatClampNeg 0) then (if (m 47 (u).toNatClampNeg 0) = 0 then (S_X12_isWrong q (3)) else (if acc = 10 then (S_X12_isWrong q (3)) else (SL_X12_draft_173 m u x y zz (10 + 1) (acc).toNatClampNeg (acc) (S_X12_isWrong q (0))))) else (if (m 47 (u).toNatClampNeg 0) = 0 then (S_X12_isWrong q (3)) else (SL_X12_draft_173 m u x y zz (10 + 1) (acc).toNatClampNeg (((m 81 (u).toNatClampNeg 0) - 1)) (S_X12_isWrong q (0)))))
theorem fin0 {m q : vS} {u x y zz : Int32} {C : Nat} (hC : m 81 u.toNatClampNeg 0 = nI C) (hC10 : C ≤ 10) : ∀ (k i : Nat) (acc : Int32), i + k = 11 → i ≤ C → (∀ j, i ≤ j → j < C → m 76 u.toNatClampNeg j ≠ 8 * x + y) → VL_X12_draft_52 m u x y zz k i acc q = dfV m u x y zz q acc ∧ SL_X12_draft_52 m u x y zz k i acc q = dfS m u x y zz q acc := by
  intro k
  induction k with
  | zero => intro i acc hh hi; exfalso; omega
  | succ k ih =>
    intro i acc hh hi hn
    unfold VL_X12_draft_52 SL_X12_draft_52
    rw [hC]
    by_cases c : C ≤ i
    · rw [if_pos (pLe (by omega) (by omega) c), if_pos (pLe (by omega) (by omega) c)]
      unfold dfV dfS
      rw [hC]
      exact ⟨rfl, rfl⟩
    · rw [if_neg (nLe (by omega) (by omega) c), if_neg (nLe (by omega) (by omega) c), if_neg (hn i (Nat.le_refl _) (by omega)), if_neg (hn i (Nat.le_refl _) (by omega))]
      exact ih (i + 1) acc (by omega) (by omega) (fun j h1 h2 => hn j (by omega) h2)
theorem fin1 {m q : vS} {u x y zz : Int32} {C J : Nat} (hC : m 81 u.toNatClampNeg 0 = nI C) (hC10 : C ≤ 10) (hJ : J < C) (hJe : m 76 u.toNatClampNeg J = 8 * x + y) (hu : ∀ j, j < C → m 76 u.toNatClampNeg j = 8 * x + y → j = J) : ∀ (k i : Nat) (acc : Int32), i + k = 11 → i ≤ J → VL_X12_draft_52 m u x y zz k i acc q = dfV m u x y zz q (nI J) ∧ SL_X12_draft_52 m u x y zz k i acc q = dfS m u x y zz q (nI J) := by
  intro k
  induction k with
  | zero => intro i acc hh hi; exfalso; omega
  | succ k ih =>
    intro i acc hh hi
    unfold VL_X12_draft_52 SL_X12_draft_52
    rw [hC, if_neg (nLe (by omega) (by omega) (by omega)), if_neg (nLe (by omega) (by omega) (by omega))]
    by_cases d : i = J
    · subst d
      rw [if_pos hJe, if_pos hJe]
      exact fin0 hC hC10 k (i + 1) _ (by omega) (by omega) (fun j h1 h2 e => by have := hu j h2 e; omega)
    · have e : ¬ m 76 u.toNatClampNeg i = 8 * x + y := fun e => d (hu i (by omega) e)
      rw [if_neg e, if_neg e]
      exact ih (i + 1) acc (by omega) (by omega)
theorem shD_r {l : List Nat} {q : vS} {u J T c i k : Nat} {P : Int32} (hc : c ∈ l) (hk : i ≠ u ∨ k ≠ T) : shD l q u J T c i k = if i = u then dR (q c u) J T P k else q c i k := by
  unfold shD dR
  by_cases e : i = u
  · subst e
    have hk2 : k ≠ T := hk.resolve_left (fun z => z rfl)
    rw [if_pos rfl, if_neg hk2]
    by_cases d : J ≤ k ∧ k < T
    · rw [if_pos d, if_pos ⟨hc, rfl, d⟩]
    · rw [if_neg d, if_neg (fun z => d z.2.2)]
  · rw [if_neg e, if_neg (fun z => e z.2.1)]
theorem lay_r {l : List Nat} {q G : vS} {u J T c i k : Nat} {P : Int32} (hc : c ∈ l) (h1 : G c u T = P) (h2 : ∀ i k, (i ≠ u ∨ k ≠ T) → G c i k = shD l q u J T c i k) : G c i k = if i = u then dR (q c u) J T P k else q c i k := by
  by_cases e : i = u ∧ k = T
  · obtain ⟨rfl, rfl⟩ := e
    rw [h1, if_pos rfl]; unfold dR; rw [if_pos rfl]
  · rw [h2 i k (by omega)]
    exact shD_r hc (by omega)
theorem shD_c {l : List Nat} {q : vS} {u J T c i k : Nat} (hc : c ∉ l) : shD l q u J T c i k = q c i k := if_neg (fun z => hc z.1)
theorem writesE {n : Nat} {g m : vS} (h : vInv n g m) {f : Nat} {x : Int32} (h0 : 0 ≤ x.toInt) (h8 : x.toInt < 8) : V_X4_writesOf g f x = m 63 f x.toNatClampNeg := by
  obtain ⟨-, -, -, -, -, -, -, -, -, hP, -⟩ := h
  unfold V_X4_writesOf
  rw [if_neg (by rw [i32_lt, i00]; omega), if_neg (by rw [i32_le, show (8 : Int32).toInt = 8 from by decide]; omega)]
  rcases hP f x.toNatClampNeg with ⟨c1, c2⟩ | ⟨c0, c1, c2, -⟩
  · rw [if_pos c1, c2]
  · rw [if_neg c1, c2]
theorem plcE {a x : Int32} (h0 : 0 ≤ a.toInt) (h1 : a.toInt < 20) (x0 : 0 ≤ x.toInt) (x1 : x.toInt < 8) : (8 * a + x).toInt = 8 * a.toInt + x.toInt := by
  have k8 : (8 : Int32).toInt = 8 := by decide
  have e1 : (8 * a).toInt = 8 * a.toInt := by
    rw [Int32.toInt_mul, k8]
    exact Int.bmod_eq_of_le (by omega) (by omega)
  rw [Int32.toInt_add, e1]
  exact Int.bmod_eq_of_le (by omega) (by omega)
theorem vInv_draft2 {n : Nat} {g m : vS} {U J T : Nat} {P y w : Int32} (h : vInv n g m) (hU : (U : Int) < (g 0 0 0).toInt) (hT : T < 10) (hP : 0 ≤ P.toInt ∧ P.toInt < 160 ∧ P.toInt < 8 * (g 2 0 0).toInt)
    (hJ : (T = (g 27 U 0).toNatClampNeg ∧ J = T ∧ ∀ j, j < T → g 30 U j ≠ P) ∨ (T + 1 = (g 27 U 0).toNatClampNeg ∧ J ≤ T ∧ g 30 U J = P)) {G0 : vS} (hG0 : ∀ c i j, ¬ (c = 27 ∧ i = U ∧ j = 0) → G0 c i j = shD [30, 31, 32] g U J T c i j) :
    vInv (n + 1) (s3 (s3 (s3 (s3 G0 30 U T P) 31 U T y) 32 U T w) 27 U 0 (nI (T + 1))) (s3 (s3 (s3 (s3 (shD [76, 78, 80] (s3 m 1 0 0 0) U J T) 76 U T P) 78 U T y) 80 U T w) 81 U 0 (nI (T + 1))) := by
  refine vInv_draft (U := U) (J := J) (T := T) (P := P) (y := y) (w := w) h hU hT hP hJ (fun c hc i j => ?_) (fun c hc i j => ?_) (fun i j => ?_) (fun i j => ?_) (fun i j => ?_) (fun i j => ?_) (fun i j => ?_) (fun i j => ?_) (fun i j => ?_) (fun i j => ?_)
  · have q : ∀ k ∈ ([27, 30, 31, 32] : List Nat), c ≠ k := fun k hk e => hc (e ▸ hk)
    rw [s3_k (q 27 (by decide)), s3_k (q 32 (by decide)), s3_k (q 31 (by decide)), s3_k (q 30 (by decide)), hG0 c i j (fun z => q 27 (by decide) z.1)]
    exact shD_c (fun z => hc (List.mem_cons_of_mem _ z))
  · have q : ∀ k ∈ ([1, 76, 78, 80, 81] : List Nat), c ≠ k := fun k hk e => hc (e ▸ hk)
    rw [s3_k (q 81 (by decide)), s3_k (q 80 (by decide)), s3_k (q 78 (by decide)), s3_k (q 76 (by decide)), shD_c (fun z => by simp only [List.mem_cons, List.not_mem_nil, or_false] at z hc; omega), s3_k (q 1 (by decide))]
  · by_cases c : i = U ∧ j = 0
    · rw [if_pos c, c.1, c.2]; exact s3_s
    · rw [if_neg c, show ∀ (Q : vS) v, s3 Q 27 U 0 v 27 i j = Q 27 i j from fun Q v => if_neg (fun z => c z.2), s3_k (by decide), s3_k (by decide), s3_k (by decide), hG0 27 i j (fun z => c z.2)]
      exact shD_c (by decide)
  · by_cases c : i = U ∧ j = 0
    · rw [if_pos c, c.1, c.2]; exact s3_s
    · rw [if_neg c, show ∀ (Q : vS) v, s3 Q 81 U 0 v 81 i j = Q 81 i j from fun Q v => if_neg (fun z => c z.2), s3_k (by decide), s3_k (by decide), s3_k (by decide), shD_c (by decide), s3_k (by decide)]
  · refine lay_r (l := [30, 31, 32]) (by decide) ?_ (fun i k hk => ?_)
    · rw [s3_k (by decide), s3_k (by decide), s3_k (by decide), s3_s]
    · rw [s3_k (by decide), s3_k (by decide), s3_k (by decide), show ∀ (Q : vS) v, s3 Q 30 U T v 30 i k = Q 30 i k from fun Q v => if_neg (by omega), hG0 30 i k (by omega)]
  · refine lay_r (l := [30, 31, 32]) (by decide) ?_ (fun i k hk => ?_)
    · rw [s3_k (by decide), s3_k (by decide), s3_s]
    · rw [s3_k (by decide), s3_k (by decide), show ∀ (Q : vS) v, s3 Q 31 U T v 31 i k = Q 31 i k from fun Q v => if_neg (by omega), s3_k (by decide), hG0 31 i k (by omega)]
  · refine lay_r (l := [30, 31, 32]) (by decide) ?_ (fun i k hk => ?_)
    · rw [s3_k (by decide), s3_s]
    · rw [s3_k (by decide), show ∀ (Q : vS) v, s3 Q 32 U T v 32 i k = Q 32 i k from fun Q v => if_neg (by omega), s3_k (by decide), s3_k (by decide), hG0 32 i k (by omega)]
  · have e := lay_r (l := [76, 78, 80]) (q := s3 m 1 0 0 0) (G := s3 (s3 (s3 (s3 (shD [76, 78, 80] (s3 m 1 0 0 0) U J T) 76 U T P) 78 U T y) 80 U T w) 81 U 0 (nI (T + 1))) (u := U) (J := J) (T := T) (c := 76) (i := i) (k := j) (P := P) (by decide) (by rw [s3_k (by decide), s3_k (by decide), s3_k (by decide), s3_s]) (fun i k hk => by rw [s3_k (by decide), s3_k (by decide), s3_k (by decide), show ∀ (Q : vS) v, s3 Q 76 U T v 76 i k = Q 76 i k from fun Q v => if_neg (by omega)])
    rw [e, s3_k (by decide), show s3 m 1 0 0 0 76 U = m 76 U from funext fun k => s3_k (by decide)]
  · have e := lay_r (l := [76, 78, 80]) (q := s3 m 1 0 0 0) (G := s3 (s3 (s3 (s3 (shD [76, 78, 80] (s3 m 1 0 0 0) U J T) 76 U T P) 78 U T y) 80 U T w) 81 U 0 (nI (T + 1))) (u := U) (J := J) (T := T) (c := 78) (i := i) (k := j) (P := y) (by decide) (by rw [s3_k (by decide), s3_k (by decide), s3_s]) (fun i k hk => by rw [s3_k (by decide), s3_k (by decide), show ∀ (Q : vS) v, s3 Q 78 U T v 78 i k = Q 78 i k from fun Q v => if_neg (by omega), s3_k (by decide)])
    rw [e, s3_k (by decide), show s3 m 1 0 0 0 78 U = m 78 U from funext fun k => s3_k (by decide)]
  · have e := lay_r (l := [76, 78, 80]) (q := s3 m 1 0 0 0) (G := s3 (s3 (s3 (s3 (shD [76, 78, 80] (s3 m 1 0 0 0) U J T) 76 U T P) 78 U T y) 80 U T w) 81 U 0 (nI (T + 1))) (u := U) (J := J) (T := T) (c := 80) (i := i) (k := j) (P := w) (by decide) (by rw [s3_k (by decide), s3_s]) (fun i k hk => by rw [s3_k (by decide), show ∀ (Q : vS) v, s3 Q 80 U T v 80 i k = Q 80 i k from fun Q v => if_neg (by omega), s3_k (by decide), s3_k (by decide)])
    rw [e, s3_k (by decide), show s3 m 1 0 0 0 80 U = m 80 U from funext fun k => s3_k (by decide)]
theorem pz_draft : PZ_draft vInv := by
  intro n g m h hn u x y zz
  have e81 := vE_ h (a := 27) (b := 81) (by decide)
  have e76 := vE_ h (a := 30) (b := 76) (by decide)
  have e47 := vE_ h (a := 21) (b := 47) (by decide)
  have g2 : (g 2 0 0).toInt ≤ 20 := by
    obtain ⟨-, -, -, -, -, -, -, hF, -⟩ := h
    exact hF.2.1
  have hD := h.2.2.2.1
  rcases nU h u with ⟨a1, a2, a3, a4, a5, a6, a7⟩ | ⟨a1, a2, -⟩
  · rcases nF h x with ⟨b1, b2, b3, b4, b5, b6, b7⟩ | ⟨b1, b2, -⟩
    · rcases nPn (g := g) (m := m) y with ⟨c1, c2, c3, c4, c5, c6, c7⟩ | ⟨c1, c2, -⟩
      · obtain ⟨d1, d2, d3, d4⟩ := hD
        have dc := d1 u.toNatClampNeg
        have tC := tnI dc.1
        have eC := (q_nI dc.1).symm
        have uq := d4 u.toNatClampNeg
        generalize hCC : (g 27 u.toNatClampNeg 0).toNatClampNeg = C at tC eC
        have pl := plcE b3 (by omega) c3 c4
        have wr := writesE h (f := x.toNatClampNeg) c3 c4
        have ix := idxE (g := g) (u := u.toNatClampNeg) (x := 8 * x + y) eC (by omega) 11 0 (by omega) (by omega) (fun j hj => absurd hj (Nat.not_lt_zero _))
        have hVL := fun q => fin0 (m := m) (q := q) (u := u) (x := x) (y := y) (zz := zz) (C := C) ((e81 _ _).trans eC) (by omega) 11 0 (nI C) (by omega) (by omega)
        have w0 : S_X12_isWrong (S_X12_isWrong m 0) 0 = s3 m 1 0 0 0 := s3_33
        have w3 : S_X12_isWrong (S_X12_isWrong m 0) 3 = s3 m 1 0 0 3 := s3_33
        have kC : nI C = (10 : Int32) ↔ C = 10 := by rw [show (10 : Int32) = nI 10 from rfl, qnI_eq (by omega) (by omega)]
        have aw : g 21 u.toNatClampNeg 0 = 0 → (S_X11_draft g u x y zz = g ∧ X_X11_draft g u x y zz = 3 ∧ ∀ q acc, dfS m u x y zz q acc = S_X12_isWrong q 3) := fun z => by
          refine ⟨by simp only [S_X11_draft, a1, b1, c1, z, ↓reduceIte], by simp only [X_X11_draft, a1, b1, c1, z, ↓reduceIte], fun q acc => ?_⟩
          unfold dfS
          rw [e47, z, if_pos rfl, if_pos rfl, ite_self]
        have hSm : S_X12_draft m u x y zz = SL_X12_draft_52 m u x y zz 11 0 (nI C) (S_X12_isWrong m 0) := by
          simp only [S_X12_draft, a2, b2, c2, e81, ↓reduceIte, d10]; rw [← eC]
        have hVm : V_X12_draft m u x y zz = VL_X12_draft_52 m u x y zz 11 0 (nI C) (S_X12_isWrong m 0) := by
          simp only [V_X12_draft, a2, b2, c2, e81, ↓reduceIte, d10]; rw [← eC]
        rcases ix with ⟨i1, i2⟩ | ⟨J, i0, i1, i2⟩
        · have f0 := hVL (S_X12_isWrong m 0) (fun j _ hj => by rw [e76]; exact i1 j hj)
          have ix : V_X1_indexOf g u.toNatClampNeg (8 * x + y) = -1 := i2
          by_cases z : g 21 u.toNatClampNeg 0 = 0
          · obtain ⟨z1, z2, z3⟩ := aw z
            rw [z1, z2]
            exact pz_ro h (k := 3) (by rw [hSm, f0.2, z3, w3]) rfl (fun q => absurd q (by decide))
          · have zm : ¬ m 47 u.toNatClampNeg 0 = 0 := by rw [e47]; exact z
            by_cases t : C < 10
            · have r1 : V_X1_hasRoomFor g u.toNatClampNeg (8 * x + y) = 1 := if_pos (by rw [eC, show (10 : Int32) = nI 10 from rfl, qnI_lt (by omega) (by omega)]; exact t)
              have rm : S_X1_removeAt g u.toNatClampNeg (-1) = g := if_pos (by decide)
              have hK : S_X1_keep g u.toNatClampNeg (8 * x + y) zz (m 63 x.toNatClampNeg y.toNatClampNeg) = s3 (s3 (s3 (s3 g 30 u.toNatClampNeg C (8 * x + y)) 31 u.toNatClampNeg C zz) 32 u.toNatClampNeg C (m 63 x.toNatClampNeg y.toNatClampNeg)) 27 u.toNatClampNeg 0 (nI (C + 1)) := by
                unfold S_X1_keep
                rw [ix, rm, eC, if_neg (by rw [i32_lt, i00, nI_toInt (by omega)]; omega), if_neg (by rw [show (10 : Int32) = nI 10 from rfl, qnI_le (by omega) (by omega)]; omega), nI_clamp (by omega), show (1 : Int32) = nI 1 from rfl, qnI_add]
              have hG : S_X11_draft g u x y zz = s3 (s3 (s3 (s3 g 30 u.toNatClampNeg C (8 * x + y)) 31 u.toNatClampNeg C zz) 32 u.toNatClampNeg C (m 63 x.toNatClampNeg y.toNatClampNeg)) 27 u.toNatClampNeg 0 (nI (C + 1)) := by
                simp only [S_X11_draft, a1, b1, c1, z, r1, wr, ↓reduceIte, d10]; exact hK
              have hX : X_X11_draft g u x y zz = 0 := by simp only [X_X11_draft, a1, b1, c1, z, r1, ↓reduceIte, d10]
              have mv := movE (m := m) (u := u) (x := x) (y := y) (zz := zz) (T := C) rfl t 11 C (s3 m 1 0 0 0) (by omega) (by omega) (Nat.le_refl _)
              have hd : dfS m u x y zz (S_X12_isWrong m 0) (nI C) = SL_X12_draft_173 m u x y zz (10 + 1) C (nI C) (s3 m 1 0 0 0) := by
                unfold dfS
                rw [e81, eC, if_pos rfl, if_neg zm, if_neg (by rw [kC]; omega), nI_clamp (by omega), w0]
              have hS := (hSm.trans f0.2).trans (hd.trans mv.1)
              have hV : V_X11_draft g u x y zz = V_X12_draft m u x y zz := by
                have v1 : V_X11_draft g u x y zz = nI (C + 1) := by
                  simp only [V_X11_draft, a1, b1, c1, z, r1, wr, ↓reduceIte, d10, V_X1_count]; rw [hK, s3_s]
                have v2 : V_X12_draft m u x y zz = nI (C + 1) := by
                  rw [hVm, f0.1]
                  unfold dfV
                  rw [e81, eC, if_pos rfl, if_neg zm, if_neg (by rw [kC]; omega), nI_clamp (by omega), w0]
                  exact mv.2
                rw [v1, v2]
              rw [hX, hV, hG, hS]
              refine pz_st (k := 0) (vInv_draft2 h (by omega) t ⟨by omega, by omega, by omega⟩ (Or.inl ⟨hCC.symm, rfl, i1⟩) (fun c i j _ => by rw [shD_0 (Nat.le_refl _)])) ?_ rfl (fun _ => rfl) (p_ph ?_) (p_pb (fun _ _ => ?_)) (p_pw (fun _ _ => ?_))
              · rw [s3_k (by decide), s3_k (by decide), s3_k (by decide), s3_k (by decide), shD_c (by decide), s3_s]
              · rw [s3_k (by decide), s3_k (by decide), s3_k (by decide), s3_k (by decide)]
              · rw [s3_k (by decide), s3_k (by decide), s3_k (by decide), s3_k (by decide), shD_c (by decide), s3_k (by decide)]
              · rw [s3_k (by decide), s3_k (by decide), s3_k (by decide), s3_k (by decide), shD_c (by decide), s3_k (by decide)]
            · have r1 : V_X1_hasRoomFor g u.toNatClampNeg (8 * x + y) = 0 := by
                unfold V_X1_hasRoomFor
                rw [if_neg (by rw [eC, show (10 : Int32) = nI 10 from rfl, qnI_lt (by omega) (by omega)]; exact t), ix, if_pos (by decide)]
              have hG : S_X11_draft g u x y zz = g := by simp only [S_X11_draft, a1, b1, c1, z, r1, ↓reduceIte]
              have hX : X_X11_draft g u x y zz = 3 := by simp only [X_X11_draft, a1, b1, c1, z, r1, ↓reduceIte]
              rw [hG, hX]
              refine pz_ro h (k := 3) ?_ rfl (fun q => absurd q (by decide))
              rw [hSm, f0.2]
              unfold dfS
              rw [e81, eC, if_pos rfl, if_neg zm, if_pos (kC.mpr (by omega)), w3]
        · have ix : V_X1_indexOf g u.toNatClampNeg (8 * x + y) = nI J := i2
          have f1 := fin1 (m := m) (q := S_X12_isWrong m 0) (u := u) (x := x) (y := y) (zz := zz) (C := C) (J := J) ((e81 _ _).trans eC) (by omega) i0 (by rw [e76]; exact i1) (fun j hj e => uq j J (by omega) (by omega) (by rw [e76] at e; rw [e, i1])) 11 0 (nI C) (by omega) (by omega)
          by_cases z : g 21 u.toNatClampNeg 0 = 0
          · obtain ⟨z1, z2, z3⟩ := aw z
            rw [z1, z2]
            exact pz_ro h (k := 3) (by rw [hSm, f1.2, z3, w3]) rfl (fun q => absurd q (by decide))
          · have zm : ¬ m 47 u.toNatClampNeg 0 = 0 := by rw [e47]; exact z
            have eJ : (nI J).toInt = (J : Int) := nI_toInt (by omega)
            have nj : ¬ nI J < 0 := by rw [i32_lt, i00, eJ]; omega
            obtain ⟨T, rfl⟩ : ∃ T, C = T + 1 := ⟨C - 1, by omega⟩
            have r1 : ¬ V_X1_hasRoomFor g u.toNatClampNeg (8 * x + y) = 0 := by
              unfold V_X1_hasRoomFor
              rw [ix, if_neg nj, ite_self]; decide
            have rm : S_X1_removeAt g u.toNatClampNeg (nI J) = s3 (shD [30, 31, 32] g u.toNatClampNeg J T) 27 u.toNatClampNeg 0 (nI T) := by
              unfold S_X1_removeAt
              rw [if_neg nj, eC, if_pos (by rw [qnI_lt (by omega) (by omega)]; exact i0), nI_clamp (by omega)]
              exact remE eC (by omega) 11 J g (by omega) i0
            have hK : S_X1_keep g u.toNatClampNeg (8 * x + y) zz (m 63 x.toNatClampNeg y.toNatClampNeg) = s3 (s3 (s3 (s3 (s3 (shD [30, 31, 32] g u.toNatClampNeg J T) 27 u.toNatClampNeg 0 (nI T)) 30 u.toNatClampNeg T (8 * x + y)) 31 u.toNatClampNeg T zz) 32 u.toNatClampNeg T (m 63 x.toNatClampNeg y.toNatClampNeg)) 27 u.toNatClampNeg 0 (nI (T + 1)) := by
              unfold S_X1_keep
              rw [ix, rm, s3_s, if_neg (by rw [i32_lt, i00, nI_toInt (by omega)]; omega), if_neg (by rw [show (10 : Int32) = nI 10 from rfl, qnI_le (by omega) (by omega)]; omega), nI_clamp (by omega), show (1 : Int32) = nI 1 from rfl, qnI_add]
            have hG : S_X11_draft g u x y zz = s3 (s3 (s3 (s3 (s3 (shD [30, 31, 32] g u.toNatClampNeg J T) 27 u.toNatClampNeg 0 (nI T)) 30 u.toNatClampNeg T (8 * x + y)) 31 u.toNatClampNeg T zz) 32 u.toNatClampNeg T (m 63 x.toNatClampNeg y.toNatClampNeg)) 27 u.toNatClampNeg 0 (nI (T + 1)) := by
              simp only [S_X11_draft, a1, b1, c1, z, r1, wr, ↓reduceIte]; exact hK
            have hX : X_X11_draft g u x y zz = 0 := by simp only [X_X11_draft, a1, b1, c1, z, r1, ↓reduceIte]
            have mv := movE (m := m) (u := u) (x := x) (y := y) (zz := zz) (T := T) rfl (by omega) 11 J (s3 m 1 0 0 0) (by omega) (by omega) (by omega)
            have e9 : nI (T + 1) - 1 = nI T := by rw [show (1 : Int32) = nI 1 from rfl, qnI_sub (by omega), Nat.add_sub_cancel]
            have nJ : ¬ nI J = nI (T + 1) := by rw [qnI_eq (by omega) (by omega)]; omega
            have hd : dfS m u x y zz (S_X12_isWrong m 0) (nI J) = SL_X12_draft_173 m u x y zz (10 + 1) J (nI T) (s3 m 1 0 0 0) := by
              unfold dfS
              rw [e81, eC, if_neg nJ, if_neg zm, nI_clamp (by omega), w0, e9]
            have hS := (hSm.trans f1.2).trans (hd.trans mv.1)
            have hV : V_X11_draft g u x y zz = V_X12_draft m u x y zz := by
              have v1 : V_X11_draft g u x y zz = nI (T + 1) := by
                simp only [V_X11_draft, a1, b1, c1, z, r1, wr, ↓reduceIte, V_X1_count]; rw [hK, s3_s]
              have v2 : V_X12_draft m u x y zz = nI (T + 1) := by
                rw [hVm, f1.1]
                unfold dfV
                rw [e81, eC, if_neg nJ, if_neg zm, nI_clamp (by omega), w0, e9]
                exact mv.2
              rw [v1, v2]
            rw [hX, hV, hG, hS]
            refine pz_st (k := 0) (vInv_draft2 h (by omega) (by omega) ⟨by omega, by omega, by omega⟩ (Or.inr ⟨hCC.symm, by omega, i1⟩) (fun c i j hc => if_neg hc)) ?_ rfl (fun _ => rfl) (p_ph ?_) (p_pb (fun _ _ => ?_)) (p_pw (fun _ _ => ?_))
            · rw [s3_k (by decide), s3_k (by decide), s3_k (by decide), s3_k (by decide), shD_c (by decide), s3_s]
            · rw [s3_k (by decide), s3_k (by decide), s3_k (by decide), s3_k (by decide), s3_k (by decide), shD_c (by decide)]
            · rw [s3_k (by decide), s3_k (by decide), s3_k (by decide), s3_k (by decide), shD_c (by decide), s3_k (by decide)]
            · rw [s3_k (by decide), s3_k (by decide), s3_k (by decide), s3_k (by decide), shD_c (by decide), s3_k (by decide)]
      · have hG : S_X11_draft g u x y zz = g := by simp only [S_X11_draft, a1, b1, c1, n20, ↓reduceIte]
        have hX : X_X11_draft g u x y zz = 2 := by simp only [X_X11_draft, a1, b1, c1, n20, ↓reduceIte]
        rw [hG, hX]
        exact pz_ro h (k := 2) (by simp only [S_X12_draft, a2, b2, c2, ↓reduceIte, d10, S_X12_isWrong]) rfl (fun q => absurd q (by decide))
    · have hG : S_X11_draft g u x y zz = g := by simp only [S_X11_draft, a1, b1, n10, ↓reduceIte]
      have hX : X_X11_draft g u x y zz = 1 := by simp only [X_X11_draft, a1, b1, n10, ↓reduceIte]
      rw [hG, hX]
      exact pz_ro h (k := 1) (by simp only [S_X12_draft, a2, b2, ↓reduceIte, d10, S_X12_isWrong]) rfl (fun q => absurd q (by decide))
  · have hG : S_X11_draft g u x y zz = g := by simp only [S_X11_draft, a1, n10, ↓reduceIte]
    have hX : X_X11_draft g u x y zz = 1 := by simp only [X_X11_draft, a1, n10, ↓reduceIte]
    rw [hG, hX]
    exact pz_ro h (k := 1) (by simp only [S_X12_draft, a2, ↓reduceIte, S_X12_isWrong]) rfl (fun q => absurd q (by decide))
