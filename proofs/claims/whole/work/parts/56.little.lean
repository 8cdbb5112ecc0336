theorem nm {c a : Nat} {l : List Nat} (h : c ∈ l) (d : a ∉ l) : c ≠ a := fun e => d (e ▸ h)
theorem pz_st {α : Type} {n : Nat} {G m M : vS} {g : vS} {k K : Int32} {X : Nat} {V W : α} (hI : vInv (n + 1) G M) (hS : M 1 0 0 = k) (hK : K = k) (hV : X = 0 → V = W) (p1 : vPh g ≤ vPh G) (p2 : vPb m ≤ vPb M) (p3 : vPw m ≤ vPw M) : K = M 1 0 0 ∧ (X = 0 → V = W) ∧ vInv (n + 1) G M ∧ vPh g ≤ vPh G ∧ vPb m ≤ vPb M ∧ vPw m ≤ vPw M := ⟨hK.trans hS.symm, hV, hI, p1, p2, p3⟩
theorem p_ph {g G : vS} (h : G 14 0 0 = g 14 0 0) : vPh g ≤ vPh G := Nat.le_of_eq (congrArg Int32.toNatClampNeg h.symm)
theorem p_pb {m M : vS} (h : ∀ i j, M 13 i j = m 13 i j) : vPb m ≤ vPb M := Nat.le_of_eq (vPb_k h).symm
theorem p_pw {m M : vS} (h : ∀ i j, M 14 i j = m 14 i j) : vPw m ≤ vPw M := Nat.le_of_eq (vPw_k h).symm
theorem pz_forget : PZ_forget vInv := by
  intro n g m h hn x
  have e11 := eL h
  have b := bL h
  rcases nLv h x with ⟨a1, a2, a3, a4⟩ | ⟨a1, a2⟩
  · have hS : S_X12_forget m x = s3 (s3 m 1 0 0 0) 11 0 0 x := by simp only [S_X12_forget, a2, S_X12_isWrong, ↓reduceIte, d10]
    have hG : S_X11_forget g x = s3 g 4 0 0 x := by simp only [S_X11_forget, a1, S_X5_cutTo, ↓reduceIte]
    have hX : X_X11_forget g x = 0 := by simp only [X_X11_forget, a1, ↓reduceIte]
    rw [hS, hG, hX]
    refine pz_st (k := 0) ?_ ((s3_k (by decide)).trans s3_s) rfl (fun _ => ?_) (p_ph (s3_k (by decide))) (p_pb (fun _ _ => (s3_k (by decide)).trans (s3_k (by decide)))) (p_pw (fun _ _ => (s3_k (by decide)).trans (s3_k (by decide))))
    · obtain ⟨hE, hrU, hrUz, hrD, hrG, hrGz, hrK, hrF, hrFz, hrP, hrV, hrLg, hrW, hrC, hrS, hrQ, hrT, hrX, hrH, hrJ, hrN⟩ := h
      exact ⟨rE_s (by decide) (by decide) (rE_m (by decide) hE), rU_k (fun c hc i j => (s3_k (nm hc (by decide))))  hrU, rUz_k (fun c hc i j => (s3_k (nm hc (by decide))))  hrUz, rD_k (fun c hc i j => (s3_k (nm hc (by decide))))  hrD, rG_k (fun c hc i j => (s3_k (nm hc (by decide))))  hrG, rGz_k (fun c hc i j => (s3_k (nm hc (by decide))))  hrGz, rK_k (fun c hc i j => (s3_k (nm hc (by decide)))) (fun c hc i j => (s3_k (nm hc (by decide))).trans (s3_k (nm hc (by decide)))) hrK, rF_k (fun c hc i j => (s3_k (nm hc (by decide)))) (fun c hc i j => (s3_k (nm hc (by decide))).trans (s3_k (nm hc (by decide)))) hrF, rFz_k (fun c hc i j => (s3_k (nm hc (by decide))))  hrFz, rP_k (fun c hc i j => (s3_k (nm hc (by decide)))) (fun c hc i j => (s3_k (nm hc (by decide))).trans (s3_k (nm hc (by decide)))) hrP, rV_k (fun c hc i j => (s3_k (nm hc (by decide)))) (fun c hc i j => (s3_k (nm hc (by decide))).trans (s3_k (nm hc (by decide)))) hrV, ⟨by rw [s3_s]; exact a3, by rw [s3_s]; omega⟩, rW_k (fun c hc i j => (s3_k (nm hc (by decide))))  hrW, rC_k (fun c hc i j => (s3_k (nm hc (by decide))))  hrC, rS_k (fun c hc i j => (s3_k (nm hc (by decide)))) (fun c hc i j => (s3_k (nm hc (by decide))).trans (s3_k (nm hc (by decide)))) hrS, rQ_k (fun c hc i j => (s3_k (nm hc (by decide))))  hrQ, rT_k (fun c hc i j => (s3_k (nm hc (by decide)))) (fun c hc i j => (s3_k (nm hc (by decide))).trans (s3_k (nm hc (by decide)))) hrT, rX_k (fun c hc i j => (s3_k (nm hc (by decide))))  hrX, rH_k (fun c hc i j => (s3_k (nm hc (by decide)))) (fun c hc i j => (s3_k (nm hc (by decide))).trans (s3_k (nm hc (by decide)))) hrH, rJ_k (fun c hc i j => (s3_k (nm hc (by decide))))  hrJ, rN_k (fun c hc i j => (s3_k (nm hc (by decide)))) (fun c hc i j => (s3_k (nm hc (by decide))).trans (s3_k (nm hc (by decide)))) (rN_le (Nat.le_succ n) hrN)⟩
    · simp only [V_X11_forget, V_X12_forget, a1, a2, V_X5_cutTo, ↓reduceIte, d10]; rw [e11]
  · have hG : S_X11_forget g x = g := by simp only [S_X11_forget, a1, n20, ↓reduceIte]
    rw [hG]
    refine pz_ro h (k := 1) ?_ ?_ ?_
    · simp only [S_X12_forget, a2, S_X12_isWrong, ↓reduceIte]
    · simp only [X_X11_forget, a1, n20, ↓reduceIte]; rfl
    · intro q; exact absurd q (by simp only [X_X11_forget, a1, n20, ↓reduceIte]; decide)
theorem rU_split {g : vS} {w : Nat} {x y : Int32} (h : rU g) (c : 1 ≤ x.toInt ∧ x.toInt ≤ 8) (d : 1 ≤ y.toInt ∧ y.toInt ≤ x.toInt) : rU (s3 (s3 g 25 w 0 x) 26 w 0 y) := by
  obtain ⟨h1, h2, h3, h4, h5⟩ := h
  refine ⟨h1, h2, h3, h4, fun u => ?_⟩
  have q := h5 u
  rw [show s3 (s3 g 25 w 0 x) 26 w 0 y 22 u 0 = g 22 u 0 from (s3_k (by decide)).trans (s3_k (by decide))]
  by_cases e : u = w
  · subst e
    rw [show s3 (s3 g 25 u 0 x) 26 u 0 y 25 u 0 = x from (s3_k (by decide)).trans s3_s, show s3 (s3 g 25 u 0 x) 26 u 0 y 26 u 0 = y from s3_s]
    refine ⟨q.1, by omega, by omega, by omega, ⟨fun z => ?_, fun z => ?_⟩⟩
    · rw [z, i00] at c; omega
    · rw [z, i00] at d; omega
  · rw [show s3 (s3 g 25 w 0 x) 26 w 0 y 25 u 0 = g 25 u 0 from (s3_k (by decide)).trans (s3_i e), show s3 (s3 g 25 w 0 x) 26 w 0 y 26 u 0 = g 26 u 0 from (s3_i e).trans (s3_k (by decide))]
    exact q
theorem rUz_split {g : vS} {w : Nat} {x y : Int32} (h : rUz g) (c : (w : Int) < (g 0 0 0).toInt) : rUz (s3 (s3 g 25 w 0 x) 26 w 0 y) := by
  intro u k9 hu
  have e : u ≠ w := fun z => by
    have : s3 (s3 g 25 w 0 x) 26 w 0 y 0 0 0 = g 0 0 0 := (s3_k (by decide)).trans (s3_k (by decide))
    rw [this] at hu
    omega
  have a := h u k9 hu
  have f : ∀ k j, s3 (s3 g 25 w 0 x) 26 w 0 y k u j = g k u j := fun k j => (s3_i e).trans (s3_i e)
  simp only [f]
  exact a
theorem pz_split : PZ_split vInv := by
  intro n g m h hn u x y
  have e46 := vE_ h (a := 26) (b := 46) (by decide)
  rcases nU h u with ⟨a1, a2, a3, a4, a5, a6, a7⟩ | ⟨a1, a2, -⟩
  · have e8 : (8 : Int32).toInt = 8 := by decide
    have e1 : (1 : Int32).toInt = 1 := by decide
    by_cases c : (1 ≤ x.toInt ∧ x.toInt ≤ 8) ∧ 1 ≤ y.toInt ∧ y.toInt ≤ x.toInt
    · have b1 : V_X12_isBetween m x 1 8 = 1 := isB1 (by rw [e1, e8]; omega)
      have b2 : V_X12_isBetween m y 1 x = 1 := isB1 (by rw [e1]; omega)
      have c1 : ¬ x < 1 := by rw [i32_lt, e1]; omega
      have c2 : ¬ 8 < x := by rw [i32_lt, e8]; omega
      have c3 : ¬ y < 1 := by rw [i32_lt, e1]; omega
      have c4 : y ≤ x := i32_le.mpr (by omega)
      have hS : S_X12_split m u x y = s3 (s3 (s3 m 1 0 0 0) 45 u.toNatClampNeg 0 x) 46 u.toNatClampNeg 0 y := by simp only [S_X12_split, a2, b1, b2, S_X12_isWrong, ↓reduceIte, d10]
      have hG : S_X11_split g u x y = s3 (s3 g 25 u.toNatClampNeg 0 x) 26 u.toNatClampNeg 0 y := by simp only [S_X11_split, a1, c1, c2, c3, c4, ↓reduceIte]
      have hX : X_X11_split g u x y = 0 := by simp only [X_X11_split, a1, c1, c2, c3, c4, ↓reduceIte]
      rw [hS, hG, hX]
      refine pz_st (k := 0) ?_ ((s3_k (by decide)).trans ((s3_k (by decide)).trans s3_s)) rfl (fun _ => ?_) (p_ph ((s3_k (by decide)).trans (s3_k (by decide)))) (p_pb (fun _ _ => (s3_k (by decide)).trans ((s3_k (by decide)).trans (s3_k (by decide))))) (p_pw (fun _ _ => (s3_k (by decide)).trans ((s3_k (by decide)).trans (s3_k (by decide)))))
      · obtain ⟨hE, hrU, hrUz, hrD, hrG, hrGz, hrK, hrF, hrFz, hrP, hrV, hrLg, hrW, hrC, hrS, hrQ, hrT, hrX, hrH, hrJ, hrN⟩ := h
        exact ⟨rE_s (by decide) (by decide) (rE_s (by decide) (by decide) (rE_m (by decide) hE)), rU_split hrU c.1 c.2, rUz_split hrUz (by omega), rD_k (fun c hc i j => (s3_k (nm hc (by decide))).trans (s3_k (nm hc (by decide))))  hrD, rG_k (fun c hc i j => (s3_k (nm hc (by decide))).trans (s3_k (nm hc (by decide))))  hrG, rGz_k (fun c hc i j => (s3_k (nm hc (by decide))).trans (s3_k (nm hc (by decide))))  hrGz, rK_k (fun c hc i j => (s3_k (nm hc (by decide))).trans (s3_k (nm hc (by decide)))) (fun c hc i j => (s3_k (nm hc (by decide))).trans ((s3_k (nm hc (by decide))).trans (s3_k (nm hc (by decide))))) hrK, rF_k (fun c hc i j => (s3_k (nm hc (by decide))).trans (s3_k (nm hc (by decide)))) (fun c hc i j => (s3_k (nm hc (by decide))).trans ((s3_k (nm hc (by decide))).trans (s3_k (nm hc (by decide))))) hrF, rFz_k (fun c hc i j => (s3_k (nm hc (by decide))).trans (s3_k (nm hc (by decide))))  hrFz, rP_k (fun c hc i j => (s3_k (nm hc (by decide))).trans (s3_k (nm hc (by decide)))) (fun c hc i j => (s3_k (nm hc (by decide))).trans ((s3_k (nm hc (by decide))).trans (s3_k (nm hc (by decide))))) hrP, rV_k (fun c hc i j => (s3_k (nm hc (by decide))).trans (s3_k (nm hc (by decide)))) (fun c hc i j => (s3_k (nm hc (by decide))).trans ((s3_k (nm hc (by decide))).trans (s3_k (nm hc (by decide))))) hrV, rLg_k (fun c hc i j => (s3_k (nm hc (by decide))).trans (s3_k (nm hc (by decide))))  hrLg, rW_k (fun c hc i j => (s3_k (nm hc (by decide))).trans (s3_k (nm hc (by decide))))  hrW, rC_k (fun c hc i j => (s3_k (nm hc (by decide))).trans (s3_k (nm hc (by decide))))  hrC, rS_k (fun c hc i j => (s3_k (nm hc (by decide))).trans (s3_k (nm hc (by decide)))) (fun c hc i j => (s3_k (nm hc (by decide))).trans ((s3_k (nm hc (by decide))).trans (s3_k (nm hc (by decide))))) hrS, rQ_k (fun c hc i j => (s3_k (nm hc (by decide))).trans (s3_k (nm hc (by decide))))  hrQ, rT_k (fun c hc i j => (s3_k (nm hc (by decide))).trans (s3_k (nm hc (by decide)))) (fun c hc i j => (s3_k (nm hc (by decide))).trans ((s3_k (nm hc (by decide))).trans (s3_k (nm hc (by decide))))) hrT, rX_k (fun c hc i j => (s3_k (nm hc (by decide))).trans (s3_k (nm hc (by decide))))  hrX, rH_k (fun c hc i j => (s3_k (nm hc (by decide))).trans (s3_k (nm hc (by decide)))) (fun c hc i j => (s3_k (nm hc (by decide))).trans ((s3_k (nm hc (by decide))).trans (s3_k (nm hc (by decide))))) hrH, rJ_k (fun c hc i j => (s3_k (nm hc (by decide))).trans (s3_k (nm hc (by decide))))  hrJ, rN_k (fun c hc i j => (s3_k (nm hc (by decide))).trans (s3_k (nm hc (by decide)))) (fun c hc i j => (s3_k (nm hc (by decide))).trans ((s3_k (nm hc (by decide))).trans (s3_k (nm hc (by decide))))) (rN_le (Nat.le_succ n) hrN)⟩
      · simp only [V_X11_split, V_X12_split, a1, a2, b1, b2, c1, c2, c3, c4, ↓reduceIte, d10, e46]
    · have hX : X_X11_split g u x y = 2 ∧ S_X11_split g u x y = g := by
        unfold X_X11_split S_X11_split
        rw [if_pos a1, if_pos a1]
        by_cases c1 : x < 1
        · rw [if_pos c1, if_pos c1]; exact ⟨rfl, rfl⟩
        · rw [if_neg c1, if_neg c1]
          by_cases c2 : 8 < x
          · rw [if_pos c2, if_pos c2]; exact ⟨rfl, rfl⟩
          · rw [if_neg c2, if_neg c2]
            by_cases c3 : y < 1
            · rw [if_pos c3, if_pos c3]; exact ⟨rfl, rfl⟩
            · rw [if_neg c3, if_neg c3]
              have c4 : ¬ y ≤ x := fun q => c (by rw [i32_lt, e1] at c1 c3; rw [i32_lt, e8] at c2; rw [i32_le] at q; omega)
              rw [if_neg c4, if_neg c4]; exact ⟨rfl, rfl⟩
      rw [hX.1, hX.2]
      refine pz_ro h (k := 2) ?_ rfl (fun q => absurd q (by decide))
      by_cases d : 1 ≤ x.toInt ∧ x.toInt ≤ 8
      · have b1 : V_X12_isBetween m x 1 8 = 1 := isB1 (by rw [e1, e8]; omega)
        have b2 : V_X12_isBetween m y 1 x = 0 := isB0 (by rw [e1]; omega)
        simp only [S_X12_split, a2, b1, b2, S_X12_isWrong, ↓reduceIte, d10]
      · have b1 : V_X12_isBetween m x 1 8 = 0 := isB0 (by rw [e1, e8]; omega)
        simp only [S_X12_split, a2, b1, S_X12_isWrong, ↓reduceIte, d10]
  · have hX : X_X11_split g u x y = 1 := by simp only [X_X11_split, a1, n10, ↓reduceIte]
    have hG : S_X11_split g u x y = g := by simp only [S_X11_split, a1, n10, ↓reduceIte]
    rw [hG, hX]
    exact pz_ro h (k := 1) (by simp only [S_X12_split, a2, S_X12_isWrong, ↓reduceIte]) rfl (fun q => absurd q (by decide))
theorem rP_spoil {g m : vS} {a x : Nat} {v : Int32} (h : rP g m) : rP (s3 g 58 a x v) (s3 (s3 m 1 0 0 0) 65 a x v) := by
  have hg : ∀ k i j, k ≠ 58 → s3 g 58 a x v k i j = g k i j := fun k i j d => s3_k d
  have hm : ∀ k i j, k ≠ 65 → k ≠ 1 → s3 (s3 m 1 0 0 0) 65 a x v k i j = m k i j := fun k i j d e => (s3_k d).trans (s3_k e)
  intro f p
  have e : s3 g 58 a x v 58 f p = g 58 f p ∧ s3 (s3 m 1 0 0 0) 65 a x v 65 f p = m 65 f p ∨ s3 g 58 a x v 58 f p = v ∧ s3 (s3 m 1 0 0 0) 65 a x v 65 f p = v := by
    by_cases c : f = a ∧ p = x
    · obtain ⟨rfl, rfl⟩ := c; exact Or.inr ⟨s3_s, s3_s⟩
    · refine Or.inl ⟨if_neg (fun q => c q.2), (if_neg (fun q => c q.2)).trans (s3_k (by decide))⟩
  rw [hg 106 f p (by decide), hm 63 f p (by decide) (by decide), hg 56 f p (by decide), hg 57 f p (by decide), hm 61 f p (by decide) (by decide), hg 59 f p (by decide), hm 67 f p (by decide) (by decide), hg 64 f p (by decide), hg 65 f p (by decide), hm 59 f _ (by decide) (by decide), hg 67 f p (by decide), hg 50 f 0 (by decide), hg 42 _ 0 (by decide), hg 60 f p (by decide), hg 11 0 0 (by decide)]
  rcases h f p with q | ⟨q0, q1, q2, q3, q4, q5, q6, q7⟩
  · exact Or.inl q
  · refine Or.inr ⟨q0, q1, q2, q3, q4, q5, ?_, q7⟩
    rcases e with ⟨e1, e2⟩ | ⟨e1, e2⟩
    · rw [e1, e2]; exact q6
    · rw [e1, e2]
theorem pz_spoil : PZ_spoil vInv := by
  intro n g m h hn x y z
  rcases nPt h x y with ⟨-, p1, p2, p3, -, -, -, -, -, -, -, -, pt⟩ | ⟨-, p1, p2, p3⟩ | ⟨-, p1, p2, p3⟩
  · have r := (rPs h pt).2.2.2.2.2.2.1
    have hS : S_X12_spoil m x y z = s3 (s3 m 1 0 0 0) 65 x.toNatClampNeg y.toNatClampNeg (g 58 x.toNatClampNeg y.toNatClampNeg ^^^ z) := by simp only [S_X12_spoil, p2, p3, ↓reduceIte, r]
    have hG : S_X11_spoil g x y z = s3 g 58 x.toNatClampNeg y.toNatClampNeg (g 58 x.toNatClampNeg y.toNatClampNeg ^^^ z) := by simp only [S_X11_spoil, p1, ↓reduceIte]
    have hX : X_X11_spoil g x y z = 0 := by simp only [X_X11_spoil, p1, ↓reduceIte]
    rw [hS, hG, hX]
    refine pz_st (k := 0) ?_ ((s3_k (by decide)).trans s3_s) rfl (fun _ => ?_) (p_ph (s3_k (by decide))) (p_pb (fun _ _ => (s3_k (by decide)).trans (s3_k (by decide)))) (p_pw (fun _ _ => (s3_k (by decide)).trans (s3_k (by decide))))
    · obtain ⟨hE, hrU, hrUz, hrD, hrG, hrGz, hrK, hrF, hrFz, hrP, hrV, hrLg, hrW, hrC, hrS, hrQ, hrT, hrX, hrH, hrJ, hrN⟩ := h
      exact ⟨rE_g (by decide) (rE_m (by decide) (rE_m (by decide) hE)), rU_k (fun c hc i j => (s3_k (nm hc (by decide))))  hrU, rUz_k (fun c hc i j => (s3_k (nm hc (by decide))))  hrUz, rD_k (fun c hc i j => (s3_k (nm hc (by decide))))  hrD, rG_k (fun c hc i j => (s3_k (nm hc (by decide))))  hrG, rGz_k (fun c hc i j => (s3_k (nm hc (by decide))))  hrGz, rK_k (fun c hc i j => (s3_k (nm hc (by decide)))) (fun c hc i j => (s3_k (nm hc (by decide))).trans (s3_k (nm hc (by decide)))) hrK, rF_k (fun c hc i j => (s3_k (nm hc (by decide)))) (fun c hc i j => (s3_k (nm hc (by decide))).trans (s3_k (nm hc (by decide)))) hrF, rFz_k (fun c hc i j => (s3_k (nm hc (by decide))))  hrFz, rP_spoil hrP, rV_k (fun c hc i j => (s3_k (nm hc (by decide)))) (fun c hc i j => (s3_k (nm hc (by decide))).trans (s3_k (nm hc (by decide)))) hrV, rLg_k (fun c hc i j => (s3_k (nm hc (by decide))))  hrLg, rW_k (fun c hc i j => (s3_k (nm hc (by decide))))  hrW, rC_k (fun c hc i j => (s3_k (nm hc (by decide))))  hrC, rS_k (fun c hc i j => (s3_k (nm hc (by decide)))) (fun c hc i j => (s3_k (nm hc (by decide))).trans (s3_k (nm hc (by decide)))) hrS, rQ_k (fun c hc i j => (s3_k (nm hc (by decide))))  hrQ, rT_k (fun c hc i j => (s3_k (nm hc (by decide)))) (fun c hc i j => (s3_k (nm hc (by decide))).trans (s3_k (nm hc (by decide)))) hrT, rX_k (fun c hc i j => (s3_k (nm hc (by decide))))  hrX, rH_k (fun c hc i j => (s3_k (nm hc (by decide)))) (fun c hc i j => (s3_k (nm hc (by decide))).trans (s3_k (nm hc (by decide)))) hrH, rJ_k (fun c hc i j => (s3_k (nm hc (by decide))))  hrJ, rN_k (fun c hc i j => (s3_k (nm hc (by decide)))) (fun c hc i j => (s3_k (nm hc (by decide))).trans (s3_k (nm hc (by decide)))) (rN_le (Nat.le_succ n) hrN)⟩
    · simp only [V_X11_spoil, V_X12_spoil, p1, p2, ↓reduceIte, r]
  · have hG : S_X11_spoil g x y z = g := by simp only [S_X11_spoil, p1, n10, ↓reduceIte]
    have hX : X_X11_spoil g x y z = 1 := by simp only [X_X11_spoil, p1, n10, ↓reduceIte]
    rw [hG, hX]
    exact pz_ro h (k := 1) (by simp only [S_X12_spoil, p2, p3, d10, ↓reduceIte]) rfl (fun q => absurd q (by decide))
  · have hG : S_X11_spoil g x y z = g := by simp only [S_X11_spoil, p1, n20, ↓reduceIte]
    have hX : X_X11_spoil g x y z = 2 := by simp only [X_X11_spoil, p1, n20, ↓reduceIte]
    rw [hG, hX]
    exact pz_ro h (k := 2) (by simp only [S_X12_spoil, p2, p3, d10, ↓reduceIte]) rfl (fun q => absurd q (by decide))
theorem pcE {g m : vS} (hP : rP g m) {x : Int32} : V_X4_partCount g x.toNatClampNeg = V_X12_partsOf m x := by
  have L : ∀ (k i : Nat) (y : Int32), VL_X4_partCount_4 g x.toNatClampNeg k i y = VL_X12_partsOf_4 m x k i y := by
    intro k
    induction k with
    | zero => intro i y; rfl
    | succ k ih =>
      intro i y
      unfold VL_X4_partCount_4 VL_X12_partsOf_4
      rcases hP x.toNatClampNeg i with ⟨c1, c2⟩ | ⟨c0, c1, c2, c3, -⟩
      · have c5 : m 63 x.toNatClampNeg i ≤ 0 := by rw [c2]; decide
        by_cases d : 8 ≤ nI i
        · rw [if_pos d, if_pos d]
        · rw [if_neg d, if_neg d, if_pos c1, if_pos c5, ih, Int32.add_zero]
      · have c5 : ¬ m 63 x.toNatClampNeg i ≤ 0 := by rw [← c2, i32_le, i00]; omega
        by_cases d : 8 ≤ nI i
        · rw [if_pos d, if_pos d]
        · rw [if_neg d, if_neg d, if_neg c1, if_neg c5, ih]
  exact L _ _ _
theorem partsOf_m {m M : vS} {x : Int32} (h : ∀ i j, M 63 i j = m 63 i j) : V_X12_partsOf M x = V_X12_partsOf m x := by
  have L : ∀ (k i : Nat) (y : Int32), VL_X12_partsOf_4 M x k i y = VL_X12_partsOf_4 m x k i y := by
    intro k
    induction k with
    | zero => intro i y; rfl
    | succ k ih => intro i y; unfold VL_X12_partsOf_4; simp only [h, ih]
  exact L _ _ _
theorem partsE {n : Nat} {g m : vS} (h : vInv n g m) {x : Int32} (h0 : 0 ≤ x.toInt) (h1 : x.toInt < (g 1 0 0).toInt) : V_X12_partsIn m x = V_X11_partsOf g x.toNatClampNeg := by
  have e4 := vE_ h (a := 2) (b := 4) (by decide)
  have e55 := vE_ h (a := 50) (b := 55) (by decide)
  have gr : ∀ f : Nat, (f : Int) < (g 2 0 0).toInt → _ := fun f hf => grpE h hf
  obtain ⟨-, -, -, -, ⟨-, -, -, g4, -⟩, -, -, ⟨f1, f2, f3, -⟩, -, hP, -⟩ := h
  have a := tnI h0
  have ex : g 48 x.toNatClampNeg 0 = x := by rw [(g4 x.toNatClampNeg (by omega)).1, q_nI h0]
  have L : ∀ (k i : Nat) (y : Int32), i + k ≤ 21 → VL_X12_partsIn_4 m x k i y = VL_X11_partsOf_4 g x.toNatClampNeg k i y := by
    intro k
    induction k with
    | zero => intro i y _; rfl
    | succ k ih =>
      intro i y hk
      have ei : (nI i).toInt = (i : Int) := nI_toInt (by omega)
      unfold VL_X12_partsIn_4 VL_X11_partsOf_4
      rw [e4]
      by_cases d : g 2 0 0 ≤ nI i
      · rw [if_pos d, if_pos d]
      · rw [if_neg d, if_neg d]
        rw [i32_le, ei] at d
        have d2 : ¬ 20 ≤ nI i := by rw [i32_le, ei, show (20 : Int32).toInt = 20 from by decide]; omega
        have d3 : ¬ g 105 i 0 = 0 := fun q => by have := (f3 i).mp q; omega
        rw [if_neg d2, if_neg d3]
        have q := gr i (by omega)
        have b := tnI q.1
        have e : g 48 (g 50 i 0).toNatClampNeg 0 = g 50 i 0 := by rw [(g4 _ (by omega)).1, q_nI q.1]
        rw [e, ex, e55]
        by_cases c : g 50 i 0 = x
        · rw [if_pos c, if_pos c, ih _ _ (by omega)]
          have := pcE hP (x := nI i)
          rw [nI_clamp (by omega)] at this
          rw [this]
        · rw [if_neg c, if_neg c, ih _ _ (by omega), Int32.add_zero]
  exact L _ _ _ (by omega)
theorem partsIn_w {m M : vS} {x : Int32} (h1 : ∀ i j, M 63 i j = m 63 i j) (h2 : ∀ i j, M 4 i j = m 4 i j) (h3 : ∀ i j, M 55 i j = m 55 i j) : V_X12_partsIn M x = V_X12_partsIn m x := by
  have L : ∀ (k i : Nat) (y : Int32), VL_X12_partsIn_4 M x k i y = VL_X12_partsIn_4 m x k i y := by
    intro k
    induction k with
    | zero => intro i y; rfl
    | succ k ih => intro i y; unfold VL_X12_partsIn_4; simp only [h2, h3, ih, partsOf_m h1]
  exact L _ _ _
theorem pz_parts : PZ_parts vInv := by
  intro n g m h hn x
  rcases nG h x with ⟨a1, a2, a3, a4, a5, a6, a7⟩ | ⟨a1, a2, -⟩
  · refine pz_ro h (k := 0) ?_ ?_ ?_
    · simp only [S_X12_parts, a2, S_X12_isWrong, ↓reduceIte, d10]
    · simp only [X_X11_parts, a1, ↓reduceIte]; rfl
    · intro _
      simp only [V_X11_parts, V_X12_parts, a1, a2, ↓reduceIte, d10]
      exact ((partsIn_w (fun _ _ => s3_k (by decide)) (fun _ _ => s3_k (by decide)) (fun _ _ => s3_k (by decide))).trans (partsE h a3 a4)).symm
  · refine pz_ro h (k := 1) ?_ ?_ ?_
    · simp only [S_X12_parts, a2, S_X12_isWrong, ↓reduceIte]
    · simp only [X_X11_parts, a1, n10, ↓reduceIte]; rfl
    · intro q; exact absurd q (by simp only [X_X11_parts, a1, n10, ↓reduceIte]; decide)
