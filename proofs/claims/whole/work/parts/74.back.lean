theorem vInv_le {n N : Nat} {g m : vS} (hn : n ≤ N) (h : vInv n g m) : vInv N g m := by
  obtain ⟨hE, hrU, hrUz, hrD, hrG, hrGz, hrK, hrF, hrFz, hrP, hrV, hrLg, hrW, hrC, hrS, hrQ, hrT, hrX, hrH, hrJ, hrN⟩ := h
  exact ⟨hE, hrU, hrUz, hrD, hrG, hrGz, hrK, hrF, hrFz, hrP, hrV, hrLg, hrW, hrC, hrS, hrQ, hrT, hrX, hrH, hrJ, rN_le hn hrN⟩
theorem vInv_back {n U : Nat} {g m : vS} (h : vInv n g m) (hU : (U : Int) < (g 0 0 0).toInt) : vInv (n + 1) (s3 (s3 g 21 U 0 0) 5 0 0 0) (s3 (s3 (s3 m 1 0 0 0) 47 U 0 0) 12 0 0 0) := by
  obtain ⟨hE, hrU, hrUz, hrD, hrG, hrGz, hrK, hrF, hrFz, hrP, hrV, hrLg, hrW, hrC, hrS, hrQ, hrT, hrX, hrH, hrJ, hrN⟩ := h
  exact ⟨rE_s (by decide) (by decide) (rE_s (by decide) (by decide) (rE_m (by decide) hE)), rU_k (fun c hc i j => (s3_k (nm hc (by decide))).trans (s3_k (nm hc (by decide))))  hrU, rUz_k (fun c hc i j => s3_k (nm hc (by decide))) (rUz_1 hrUz (by decide) hU), rD_k (fun c hc i j => (s3_k (nm hc (by decide))).trans (s3_k (nm hc (by decide))))  hrD, rG_k (fun c hc i j => (s3_k (nm hc (by decide))).trans (s3_k (nm hc (by decide))))  hrG, rGz_k (fun c hc i j => (s3_k (nm hc (by decide))).trans (s3_k (nm hc (by decide))))  hrGz, rK_k (fun c hc i j => (s3_k (nm hc (by decide))).trans (s3_k (nm hc (by decide)))) (fun c hc i j => (s3_k (nm hc (by decide))).trans ((s3_k (nm hc (by decide))).trans (s3_k (nm hc (by decide))))) hrK, rF_k (fun c hc i j => (s3_k (nm hc (by decide))).trans (s3_k (nm hc (by decide)))) (fun c hc i j => (s3_k (nm hc (by decide))).trans ((s3_k (nm hc (by decide))).trans (s3_k (nm hc (by decide))))) hrF, rFz_k (fun c hc i j => (s3_k (nm hc (by decide))).trans (s3_k (nm hc (by decide))))  hrFz, rP_k (fun c hc i j => (s3_k (nm hc (by decide))).trans (s3_k (nm hc (by decide)))) (fun c hc i j => (s3_k (nm hc (by decide))).trans ((s3_k (nm hc (by decide))).trans (s3_k (nm hc (by decide))))) hrP, rV_k (fun c hc i j => (s3_k (nm hc (by decide))).trans (s3_k (nm hc (by decide)))) (fun c hc i j => (s3_k (nm hc (by decide))).trans ((s3_k (nm hc (by decide))).trans (s3_k (nm hc (by decide))))) hrV, rLg_k (fun c hc i j => (s3_k (nm hc (by decide))).trans (s3_k (nm hc (by decide))))  hrLg, rW_k (fun c hc i j => (s3_k (nm hc (by decide))).trans (s3_k (nm hc (by decide))))  hrW, (by unfold rC; rw [s3_s]; decide), rS_k (fun c hc i j => (s3_k (nm hc (by decide))).trans (s3_k (nm hc (by decide)))) (fun c hc i j => (s3_k (nm hc (by decide))).trans ((s3_k (nm hc (by decide))).trans (s3_k (nm hc (by decide))))) hrS, rQ_k (fun c hc i j => (s3_k (nm hc (by decide))).trans (s3_k (nm hc (by decide))))  hrQ, rT_k (fun c hc i j => (s3_k (nm hc (by decide))).trans (s3_k (nm hc (by decide)))) (fun c hc i j => (s3_k (nm hc (by decide))).trans ((s3_k (nm hc (by decide))).trans (s3_k (nm hc (by decide))))) hrT, rX_k (fun c hc i j => (s3_k (nm hc (by decide))).trans (s3_k (nm hc (by decide))))  hrX, rH_k (fun c hc i j => (s3_k (nm hc (by decide))).trans (s3_k (nm hc (by decide)))) (fun c hc i j => (s3_k (nm hc (by decide))).trans ((s3_k (nm hc (by decide))).trans (s3_k (nm hc (by decide))))) hrH, rJ_k (fun c hc i j => (s3_k (nm hc (by decide))).trans (s3_k (nm hc (by decide))))  hrJ, rN_k (fun c hc i j => (s3_k (nm hc (by decide))).trans (s3_k (nm hc (by decide)))) (fun c hc i j => (s3_k (nm hc (by decide))).trans ((s3_k (nm hc (by decide))).trans (s3_k (nm hc (by decide))))) (rN_le (Nat.le_succ n) hrN)⟩
theorem st_conf {n : Nat} {q q' : vS} {C v : Int32} (h : vInv n q q') (e : q 5 0 0 = C) (c0 : 0 ≤ C.toInt) (c1 : C.toInt < 10) : vInv n (s3 (s3 q 84 C.toNatClampNeg 0 v) 5 0 0 (C + 1)) (s3 (s3 q' 82 C.toNatClampNeg 0 v) 12 0 0 (C + 1)) := by
  obtain ⟨hE, hrU, hrUz, hrD, hrG, hrGz, hrK, hrF, hrFz, hrP, hrV, hrLg, hrW, hrC, hrS, hrQ, hrT, hrX, hrH, hrJ, hrN⟩ := h
  have HC : rC (s3 (s3 q 84 C.toNatClampNeg 0 v) 5 0 0 (C + 1)) := by
    unfold rC
    rw [s3_s, q_add1 (by omega)]; omega
  exact ⟨rE_s (by decide) (by decide) (rE_s (by decide) (by decide) hE), rU_k (fun c hc i j => (s3_k (nm hc (by decide))).trans (s3_k (nm hc (by decide))))  hrU, rUz_k (fun c hc i j => (s3_k (nm hc (by decide))).trans (s3_k (nm hc (by decide))))  hrUz, rD_k (fun c hc i j => (s3_k (nm hc (by decide))).trans (s3_k (nm hc (by decide))))  hrD, rG_k (fun c hc i j => (s3_k (nm hc (by decide))).trans (s3_k (nm hc (by decide))))  hrG, rGz_k (fun c hc i j => (s3_k (nm hc (by decide))).trans (s3_k (nm hc (by decide))))  hrGz, rK_k (fun c hc i j => (s3_k (nm hc (by decide))).trans (s3_k (nm hc (by decide)))) (fun c hc i j => (s3_k (nm hc (by decide))).trans (s3_k (nm hc (by decide)))) hrK, rF_k (fun c hc i j => (s3_k (nm hc (by decide))).trans (s3_k (nm hc (by decide)))) (fun c hc i j => (s3_k (nm hc (by decide))).trans (s3_k (nm hc (by decide)))) hrF, rFz_k (fun c hc i j => (s3_k (nm hc (by decide))).trans (s3_k (nm hc (by decide))))  hrFz, rP_k (fun c hc i j => (s3_k (nm hc (by decide))).trans (s3_k (nm hc (by decide)))) (fun c hc i j => (s3_k (nm hc (by decide))).trans (s3_k (nm hc (by decide)))) hrP, rV_k (fun c hc i j => (s3_k (nm hc (by decide))).trans (s3_k (nm hc (by decide)))) (fun c hc i j => (s3_k (nm hc (by decide))).trans (s3_k (nm hc (by decide)))) hrV, rLg_k (fun c hc i j => (s3_k (nm hc (by decide))).trans (s3_k (nm hc (by decide))))  hrLg, rW_k (fun c hc i j => (s3_k (nm hc (by decide))).trans (s3_k (nm hc (by decide))))  hrW, HC, rS_k (fun c hc i j => (s3_k (nm hc (by decide))).trans (s3_k (nm hc (by decide)))) (fun c hc i j => (s3_k (nm hc (by decide))).trans (s3_k (nm hc (by decide)))) hrS, rQ_k (fun c hc i j => (s3_k (nm hc (by decide))).trans (s3_k (nm hc (by decide))))  hrQ, rT_k (fun c hc i j => (s3_k (nm hc (by decide))).trans (s3_k (nm hc (by decide)))) (fun c hc i j => (s3_k (nm hc (by decide))).trans (s3_k (nm hc (by decide)))) hrT, rX_k (fun c hc i j => (s3_k (nm hc (by decide))).trans (s3_k (nm hc (by decide))))  hrX, rH_k (fun c hc i j => (s3_k (nm hc (by decide))).trans (s3_k (nm hc (by decide)))) (fun c hc i j => (s3_k (nm hc (by decide))).trans (s3_k (nm hc (by decide)))) hrH, rJ_k (fun c hc i j => (s3_k (nm hc (by decide))).trans (s3_k (nm hc (by decide))))  hrJ, rN_k (fun c hc i j => (s3_k (nm hc (by decide))).trans (s3_k (nm hc (by decide)))) (fun c hc i j => (s3_k (nm hc (by decide))).trans (s3_k (nm hc (by decide)))) hrN⟩
theorem st_clear {n U : Nat} {q q' : vS} (h : vInv n q q') (hU : (U : Int) < (q 0 0 0).toInt) : vInv n (s3 q 27 U 0 0) (s3 q' 81 U 0 0) := by
  obtain ⟨hE, hrU, hrUz, hrD, hrG, hrGz, hrK, hrF, hrFz, hrP, hrV, hrLg, hrW, hrC, hrS, hrQ, hrT, hrX, hrH, hrJ, hrN⟩ := h
  have HD : rD (s3 q 27 U 0 0) := by
    obtain ⟨d1, d2, d3, d4⟩ := hrD
    have a30 : ∀ u k, s3 q 27 U 0 0 30 u k = q 30 u k := fun u k => s3_k (by decide)
    have a2 : s3 q 27 U 0 0 2 0 0 = q 2 0 0 := s3_k (by decide)
    have a27 : ∀ u, s3 q 27 U 0 0 27 u 0 = if u = U then 0 else q 27 u 0 := fun u => by
      by_cases c : u = U
      · rw [c, s3_s, if_pos rfl]
      · rw [s3_i c, if_neg c]
    unfold rD
    simp only [a30, a2, a27]
    refine ⟨fun u => ?_, d2, fun u k hk => ?_, fun u j k hj hk e => ?_⟩
    · split
      · decide
      · exact d1 u
    · by_cases c : u = U
      · rw [if_pos c, i00] at hk; omega
      · rw [if_neg c] at hk; exact d3 u k hk
    · by_cases c : u = U
      · rw [if_pos c, i00] at hk; omega
      · rw [if_neg c] at hj hk; exact d4 u j k hj hk e
  exact ⟨rE_s (by decide) (by decide) hE, rU_k (fun c hc i j => s3_k (nm hc (by decide)))  hrU, rUz_1 hrUz (by decide) hU, HD, rG_k (fun c hc i j => s3_k (nm hc (by decide)))  hrG, rGz_k (fun c hc i j => s3_k (nm hc (by decide)))  hrGz, rK_k (fun c hc i j => s3_k (nm hc (by decide))) (fun c hc i j => s3_k (nm hc (by decide))) hrK, rF_k (fun c hc i j => s3_k (nm hc (by decide))) (fun c hc i j => s3_k (nm hc (by decide))) hrF, rFz_k (fun c hc i j => s3_k (nm hc (by decide)))  hrFz, rP_k (fun c hc i j => s3_k (nm hc (by decide))) (fun c hc i j => s3_k (nm hc (by decide))) hrP, rV_k (fun c hc i j => s3_k (nm hc (by decide))) (fun c hc i j => s3_k (nm hc (by decide))) hrV, rLg_k (fun c hc i j => s3_k (nm hc (by decide)))  hrLg, rW_k (fun c hc i j => s3_k (nm hc (by decide)))  hrW, rC_k (fun c hc i j => s3_k (nm hc (by decide)))  hrC, rS_k (fun c hc i j => s3_k (nm hc (by decide))) (fun c hc i j => s3_k (nm hc (by decide))) hrS, rQ_k (fun c hc i j => s3_k (nm hc (by decide)))  hrQ, rT_k (fun c hc i j => s3_k (nm hc (by decide))) (fun c hc i j => s3_k (nm hc (by decide))) hrT, rX_k (fun c hc i j => s3_k (nm hc (by decide)))  hrX, rH_k (fun c hc i j => s3_k (nm hc (by decide))) (fun c hc i j => s3_k (nm hc (by decide))) hrH, rJ_k (fun c hc i j => s3_k (nm hc (by decide)))  hrJ, rN_k (fun c hc i j => s3_k (nm hc (by decide))) (fun c hc i j => s3_k (nm hc (by decide))) hrN⟩
theorem div8 {P : Int32} (h0 : 0 ≤ P.toInt) (h1 : P.toInt < 160) : (P / 8).toInt = P.toInt / 8 ∧ (P - P / 8 * 8).toInt = P.toInt % 8 := by
  have k8 : (8 : Int32).toInt = 8 := by decide
  have e1 : (P / 8).toInt = P.toInt / 8 := by
    rw [Int32.toInt_div, k8, Int.tdiv_eq_ediv_of_nonneg h0]
    exact Int.bmod_eq_of_le (by omega) (by omega)
  have e2 : (P / 8 * 8).toInt = P.toInt / 8 * 8 := by
    rw [Int32.toInt_mul, e1, k8]
    exact Int.bmod_eq_of_le (by omega) (by omega)
  refine ⟨e1, ?_⟩
  rw [Int32.toInt_sub, e2, show P.toInt - P.toInt / 8 * 8 = P.toInt % 8 from by omega]
  exact Int.bmod_eq_of_le (by omega) (by omega)
/-- a draft becomes a write, or doesn't, side by side -/
theorem becomeE {n i U : Nat} {q q' : vS} {u P W v : Int32} (h : vInv n q q') (hu0 : 0 ≤ u.toInt) (hu6 : u.toNatClampNeg < 6) (hU : u.toNatClampNeg = U) (h28 : q 28 U 0 = u) (h21 : q 21 U 0 = 0) (hi : i < 10) (hP : q 30 U i = P) (hv : q 31 U i = v) (hW : q 32 U i = W) (p0 : 0 ≤ P.toInt) (p1 : P.toInt < 160) (p2 : P.toInt < 8 * (q 2 0 0).toInt) :
    X_X11_becomesWrite q U (nI i) = 0 ∧ V_X1_placeAt q U (nI i) = P ∧
    ((V_X11_becomesWrite q U (nI i) = 1 ∧ S_X11_becomesWrite q U (nI i) = S_X11_put q (P / 8).toNatClampNeg (P - P / 8 * 8) v ∧ V_X12_cannotWrite q' u (P / 8) (P - P / 8 * 8) = 0 ∧ q' 63 (P / 8).toNatClampNeg (P - P / 8 * 8).toNatClampNeg = W ∧ (q 4 0 0).toInt < 300 ∧ (q 106 (P / 8).toNatClampNeg (P - P / 8 * 8).toNatClampNeg = 0 → (V_X11_partsOf q (q 50 (P / 8).toNatClampNeg 0).toNatClampNeg).toInt < (q 41 (q 50 (P / 8).toNatClampNeg 0).toNatClampNeg 0).toInt)) ∨
     (V_X11_becomesWrite q U (nI i) = 0 ∧ S_X11_becomesWrite q U (nI i) = q ∧ (V_X12_cannotWrite q' u (P / 8) (P - P / 8 * 8) ≠ 0 ∨ q' 63 (P / 8).toNatClampNeg (P - P / 8 * 8).toNatClampNeg ≠ W))) := by
  obtain ⟨d1, d2⟩ := div8 p0 p1
  have ei : (nI i).toInt = (i : Int) := nI_toInt (by omega)
  have c1 : ¬ nI i < 0 := by rw [i32_lt, i00, ei]; omega
  have c2 : ¬ 10 ≤ nI i := by rw [i32_le, ei, show (10 : Int32).toInt = 10 from by decide]; omega
  have pl : V_X1_placeAt q U (nI i) = P := by
    unfold V_X1_placeAt
    rw [if_neg c1, if_neg c2, nI_clamp (by omega), hP]
  have vl : V_X1_valueAt q U (nI i) = v := by
    unfold V_X1_valueAt
    rw [if_neg c1, if_neg c2, nI_clamp (by omega), hv]
  have wl : V_X1_writesAt q U (nI i) = W := by
    unfold V_X1_writesAt
    rw [if_neg c1, if_neg c2, nI_clamp (by omega), hW]
  have x0 : 0 ≤ (P / 8).toInt := by rw [d1]; omega
  have x1 : (P / 8).toInt < (q 2 0 0).toInt := by rw [d1]; omega
  have y0 : 0 ≤ (P - P / 8 * 8).toInt := by rw [d2]; omega
  have y1 : (P - P / 8 * 8).toInt < 8 := by rw [d2]; omega
  have nf : X_X11_needFile q (P / 8) = 0 := by
    rcases nF h (P / 8) with ⟨a1, -⟩ | ⟨-, -, a3⟩
    · exact a1
    · exact absurd ⟨x0, x1⟩ a3
  have op := openE h (u := u) x0 x1 y0 y1
  have wr := writesE h (f := (P / 8).toNatClampNeg) y0 y1
  have hm := hasM (g := q) (i := (q 50 (P / 8).toNatClampNeg 0).toNatClampNeg) hu0 hu6
  rw [hU] at hm op
  rw [h21, if_pos rfl] at op
  unfold X_X11_becomesWrite V_X11_becomesWrite S_X11_becomesWrite
  rw [pl, vl, wl, wr, h28, hm, if_pos nf, if_pos nf, if_pos nf]
  refine ⟨rfl, rfl, ?_⟩
  by_cases b : q 44 (q 50 (P / 8).toNatClampNeg 0).toNatClampNeg U = 0
  · rw [if_pos b, if_pos rfl, if_pos rfl]
    refine Or.inr ⟨rfl, rfl, Or.inl ?_⟩
    rcases op with ⟨-, -, -, o4⟩ | ⟨-, o4⟩ <;> rw [o4, if_pos b] <;> decide
  · rw [if_neg b] at op
    rw [if_neg b, if_neg (by decide : ¬ (1 : Int32) = 0), if_neg (by decide : ¬ (1 : Int32) = 0)]
    rcases op with ⟨o1, o2, o3, o4⟩ | ⟨o1, o4⟩
    · rw [o1, if_neg (by decide : ¬ (1 : Int32) = 0), if_neg (by decide : ¬ (1 : Int32) = 0)]
      by_cases e : q' 63 (P / 8).toNatClampNeg (P - P / 8 * 8).toNatClampNeg = W
      · rw [if_pos e, if_pos e]
        exact Or.inl ⟨rfl, rfl, o4, e, o2, o3⟩
      · rw [if_neg e, if_neg e]
        exact Or.inr ⟨rfl, rfl, Or.inr e⟩
    · rw [if_neg b] at o4
      rw [o1, if_pos rfl, if_pos rfl]
      exact Or.inr ⟨rfl, rfl, Or.inl (by rw [o4]; decide)⟩
theorem backL {n U : Nat} {g m : vS} {u : Int32} (h : vInv n g m) (hn : n < 512) (hu0 : 0 ≤ u.toInt) (hu6 : u.toNatClampNeg < 6) (hU : u.toNatClampNeg = U) (hU2 : (U : Int) < (g 0 0 0).toInt) (h28 : g 28 U 0 = u) : ∀ (k i : Nat) (x : Int32) (q q' : vS), i + k = 11 → i ≤ 10 → vInv (n + 1 + 2 * i) q q' → (∀ c, c ∉ ([51, 61, 62, 52, 56, 57, 58, 59, 60, 64, 65, 67, 106, 80, 4, 84, 5, 21] : List Nat) → ∀ a b, q c a b = g c a b) → (∀ c, c ∉ ([56, 59, 13, 61, 63, 65, 67, 57, 73, 11, 82, 12, 47, 1] : List Nat) → ∀ a b, q' c a b = m c a b) → q 21 U 0 = 0 → 0 ≤ (q 5 0 0).toInt → (q 5 0 0).toInt ≤ (i : Int) → (∀ f, (q 51 f 0).toInt ≤ (g 51 f 0).toInt + (i : Int)) → (∀ f p, (q' 63 f p).toInt ≤ (m 63 f p).toInt + (i : Int)) → (∀ f, (m 13 f 0).toNatClampNeg ≤ (q' 13 f 0).toNatClampNeg) → q' 1 0 0 = 0 →
    XL_X11_comeBack_48 g u k i x q = 0 ∧ VL_X11_comeBack_48 g u k i x q = VL_X12_comeBack_51 m u k i x q' ∧ vInv (n + 21) (SL_X11_comeBack_48 g u k i x q) (SL_X12_comeBack_51 m u k i x q') ∧
    (∀ c, c ∉ 27 :: ([51, 61, 62, 52, 56, 57, 58, 59, 60, 64, 65, 67, 106, 80, 4, 84, 5, 21] : List Nat) → ∀ a b, SL_X11_comeBack_48 g u k i x q c a b = g c a b) ∧ (∀ c, c ∉ 81 :: ([56, 59, 13, 61, 63, 65, 67, 57, 73, 11, 82, 12, 47, 1] : List Nat) → ∀ a b, SL_X12_comeBack_51 m u k i x q' c a b = m c a b) ∧ (∀ f, (SL_X11_comeBack_48 g u k i x q 51 f 0).toInt ≤ (g 51 f 0).toInt + 10) ∧ (∀ f p, (SL_X12_comeBack_51 m u k i x q' 63 f p).toInt ≤ (m 63 f p).toInt + 10) ∧ (∀ f, (m 13 f 0).toNatClampNeg ≤ (SL_X12_comeBack_51 m u k i x q' 13 f 0).toNatClampNeg) ∧ SL_X12_comeBack_51 m u k i x q' 1 0 0 = 0 := by
  have e81 := vE_ h (a := 27) (b := 81) (by decide) U 0
  have e76 := vE_ h (a := 30) (b := 76) (by decide)
  have e78 := vE_ h (a := 31) (b := 78) (by decide)
  have e80 := vE_ h (a := 32) (b := 80) (by decide)
  have bT := bE h (by omega)
  obtain ⟨D1, D2, D3, -⟩ := h.2.2.2.1
  have dc := D1 U
  have tC := tnI dc.1
  have eC := (q_nI dc.1).symm
  generalize hCC : (g 27 U 0).toNatClampNeg = C at tC eC
  have cnt : V_X1_count (s3 (s3 g 21 u.toNatClampNeg 0 0) 5 0 0 0) u.toNatClampNeg = nI C := by
    unfold V_X1_count
    rw [s3_k (by decide), s3_k (by decide), hU, eC]
  intro k
  induction k with
  | zero => intro i x q q' hh hi; exfalso; omega
  | succ k ih =>
    intro i x q q' hh hi hI hg hm' h21 c0 c1 b51 b63 b13 t1
    unfold XL_X11_comeBack_48 VL_X11_comeBack_48 SL_X11_comeBack_48 VL_X12_comeBack_51 SL_X12_comeBack_51
    rw [cnt, hU, e81, eC]
    by_cases c : C ≤ i
    · have c' := pLe (a := C) (b := i) (by omega) (by omega) c
      rw [if_pos c', if_pos c', if_pos c', if_pos c', if_pos c']
      refine ⟨rfl, rfl, vInv_le (by omega) (st_clear hI (by rw [hg 0 (by decide)]; exact hU2)), fun z hz a b => ?_, fun z hz a b => ?_, fun f => ?_, fun f p => ?_, fun f => ?_, ?_⟩
      · exact (s3_k (fun e => hz (by rw [e]; decide))).trans (hg z (fun e => hz (List.mem_cons_of_mem _ e)) a b)
      · exact (s3_k (fun e => hz (by rw [e]; decide))).trans (hm' z (fun e => hz (List.mem_cons_of_mem _ e)) a b)
      · show (s3 q 27 U 0 0 51 f 0).toInt ≤ _
        rw [s3_k (by decide)]; have := b51 f; omega
      · rw [s3_k (by decide)]; have := b63 f p; omega
      · rw [s3_k (by decide)]; exact b13 f
      · rw [s3_k (by decide)]; exact t1
    · have c' := nLe (a := C) (b := i) (by omega) (by omega) c
      have c2 : ¬ (10 : Int32) ≤ nI i := by rw [show (10 : Int32) = nI 10 from rfl, qnI_le (by omega) (by omega)]; omega
      have P0 := D2 U i
      have P3 := D3 U i (by omega)
      have g2 : (q 2 0 0).toInt = (g 2 0 0).toInt := by rw [hg 2 (by decide)]
      obtain ⟨w1, w2, w3⟩ := becomeE (i := i) (P := g 30 U i) (v := g 31 U i) (W := g 32 U i) hI hu0 hu6 hU ((hg 28 (by decide) _ _).trans h28) h21 (by omega) (hg 30 (by decide) _ _) (hg 31 (by decide) _ _) (hg 32 (by decide) _ _) P0.1 P0.2 (by omega)
      rw [if_neg c', if_neg c', if_neg c', if_neg c', if_neg c', if_neg c2, if_neg c2, if_neg c2, w1, if_pos rfl, if_pos rfl, if_pos rfl, e76, e78, e80]
      obtain ⟨dv1, dv2⟩ := div8 P0.1 P0.2
      have cn : q' 12 0 0 = q 5 0 0 := vE_ hI (a := 5) (b := 12) (by decide) 0 0
      rcases w3 with ⟨v1, v2, v3, v4, v5, v6⟩ | ⟨v1, v2, v3⟩
      · rw [v1, v2, v3, if_neg (by decide : ¬ (1 : Int32) = 0), if_neg (by decide : ¬ (1 : Int32) = 0), if_neg (by decide : ¬ (1 : Int32) = 0), if_pos rfl, if_pos rfl, if_pos v4, if_pos v4]
        obtain ⟨p1, p2, p3, p4, p5, p6, p7⟩ := put_ok (v := g 31 U i) hI (by omega) (by rw [hg 11 (by decide)]; exact bT.2) (by rw [dv1]; omega) (by rw [dv1, g2]; omega) (by rw [dv2]; omega) (by rw [dv2]; omega) v5 v6
        refine ih (i + 1) (x + 1) _ _ (by omega) (by omega) (vInv_le (by omega) p1) (fun z hz a b => ?_) (fun z hz a b => ?_) ?_ ?_ ?_ (fun f => ?_) (fun f p => ?_) (fun f => ?_) ?_
        · exact (p3 z (fun e => hz ((by decide : ∀ z ∈ ([51, 61, 62, 52, 56, 57, 58, 59, 60, 64, 65, 67, 106, 80, 4] : List Nat), z ∈ ([51, 61, 62, 52, 56, 57, 58, 59, 60, 64, 65, 67, 106, 80, 4, 84, 5, 21] : List Nat)) z e)) a b).trans (hg z hz a b)
        · exact (p4 z (fun e => hz ((by decide : ∀ z ∈ ([56, 59, 13, 61, 63, 65, 67, 57, 73, 11] : List Nat), z ∈ ([56, 59, 13, 61, 63, 65, 67, 57, 73, 11, 82, 12, 47, 1] : List Nat)) z e)) a b).trans (hm' z hz a b)
        · rw [p3 21 (by decide)]; exact h21
        · rw [p3 5 (by decide)]; exact c0
        · rw [p3 5 (by decide)]; omega
        · have a := p5 f; have b := b51 f; omega
        · have a := p6 f p; have b := b63 f p; omega
        · exact Nat.le_trans (b13 f) (p7 f)
        · rw [p4 1 (by decide)]; exact t1
      · have nc : S_X11_noteConflict q (g 30 U i) = s3 (s3 q 84 (q 5 0 0).toNatClampNeg 0 (g 30 U i)) 5 0 0 (q 5 0 0 + 1) := by
          unfold S_X11_noteConflict
          rw [if_neg (by rw [i32_lt, i00]; omega : ¬ q 5 0 0 < 0), if_neg (by rw [i32_le, show (10 : Int32).toInt = 10 from by decide]; omega : ¬ 10 ≤ q 5 0 0)]
        rw [v1, v2, w2, nc, if_pos rfl, if_pos rfl, if_pos rfl, cn]
        have rv : ∀ (a b : Int32), (if V_X12_cannotWrite q' u (g 30 U i / 8) (g 30 U i - g 30 U i / 8 * 8) = 0 then (if q' 63 (g 30 U i / 8).toNatClampNeg (g 30 U i - g 30 U i / 8 * 8).toNatClampNeg = g 32 U i then a else b) else b) = b := fun a b => by
          rcases v3 with z | z
          · rw [if_neg z]
          · rw [if_neg z, ite_self]
        have rs : ∀ (a b : vS), (if V_X12_cannotWrite q' u (g 30 U i / 8) (g 30 U i - g 30 U i / 8 * 8) = 0 then (if q' 63 (g 30 U i / 8).toNatClampNeg (g 30 U i - g 30 U i / 8 * 8).toNatClampNeg = g 32 U i then a else b) else b) = b := fun a b => by
          rcases v3 with z | z
          · rw [if_neg z]
          · rw [if_neg z, ite_self]
        rw [rv, rs]
        have e1 : (q 5 0 0 + 1).toInt = (q 5 0 0).toInt + 1 := q_add1 (by omega)
        refine ih (i + 1) x _ _ (by omega) (by omega) (vInv_le (by omega) (st_conf hI rfl c0 (by omega))) (fun z hz a b => ?_) (fun z hz a b => ?_) ?_ ?_ ?_ (fun f => ?_) (fun f p => ?_) (fun f => ?_) ?_
        · exact ((s3_k (fun e => hz (by rw [e]; decide))).trans (s3_k (fun e => hz (by rw [e]; decide)))).trans (hg z hz a b)
        · exact ((s3_k (fun e => hz (by rw [e]; decide))).trans (s3_k (fun e => hz (by rw [e]; decide)))).trans (hm' z hz a b)
        · rw [s3_k (by decide), s3_k (by decide)]; exact h21
        · rw [s3_s, e1]; omega
        · rw [s3_s, e1]; omega
        · rw [s3_k (by decide), s3_k (by decide)]; have := b51 f; omega
        · rw [s3_k (by decide), s3_k (by decide)]; have := b63 f p; omega
        · rw [s3_k (by decide), s3_k (by decide)]; exact b13 f
        · rw [s3_k (by decide), s3_k (by decide)]; exact t1
theorem pz_comeBack : PZ_comeBack vInv := by
  intro n g m h hn u
  have e47 := vE_ h (a := 21) (b := 47) (by decide)
  rcases nU h u with ⟨a1, a2, a3, a4, a5, a6, a7⟩ | ⟨a1, a2, -⟩
  · by_cases c : g 21 u.toNatClampNeg 0 = 0
    · have hG : S_X11_comeBack g u = g := by simp only [S_X11_comeBack, a1, c, ↓reduceIte]
      have hX : X_X11_comeBack g u = 3 := by simp only [X_X11_comeBack, a1, c, ↓reduceIte]
      rw [hG, hX]
      exact pz_ro h (k := 2) (by simp only [S_X12_comeBack, a2, e47, c, ↓reduceIte, d10, S_X12_isWrong]) rfl (fun q => absurd q (by decide))
    · have c2 : ¬ m 47 u.toNatClampNeg 0 = 0 := by rw [e47]; exact c
      have h28 : g 28 u.toNatClampNeg 0 = u := by rw [h.2.1.2.2.2.1 u.toNatClampNeg (by omega), a7]
      obtain ⟨r0, r1, r2, r3, r4, r5, r6, r7, r8⟩ := backL h hn a3 a5 rfl (by omega) h28 11 0 0 (s3 (s3 g 21 u.toNatClampNeg 0 0) 5 0 0 0) (s3 (s3 (s3 m 1 0 0 0) 47 u.toNatClampNeg 0 0) 12 0 0 0) (by omega) (by omega) (vInv_back h (by omega)) (fun z hz a b => (s3_k (fun e => hz (by rw [e]; decide))).trans (s3_k (fun e => hz (by rw [e]; decide)))) (fun z hz a b => (s3_k (fun e => hz (by rw [e]; decide))).trans ((s3_k (fun e => hz (by rw [e]; decide))).trans (s3_k (fun e => hz (by rw [e]; decide))))) ((s3_k (by decide)).trans s3_s) (by rw [s3_s]; decide) (by rw [s3_s]; decide) (fun f => by rw [s3_k (by decide), s3_k (by decide)]; omega) (fun f p => by rw [s3_k (by decide), s3_k (by decide), s3_k (by decide)]; omega) (fun f => by rw [s3_k (by decide), s3_k (by decide), s3_k (by decide)]; exact Nat.le_refl _) ((s3_k (by decide)).trans ((s3_k (by decide)).trans s3_s))
      have B := nB h
      have hG : S_X11_comeBack g u = SL_X11_comeBack_48 g u 11 0 0 (s3 (s3 g 21 u.toNatClampNeg 0 0) 5 0 0 0) := by simp only [S_X11_comeBack, a1, c, ↓reduceIte]
      have hX : X_X11_comeBack g u = 0 := by simp only [X_X11_comeBack, a1, c, ↓reduceIte]; exact r0
      have hS : S_X12_comeBack m u = SL_X12_comeBack_51 m u 11 0 0 (s3 (s3 (s3 m 1 0 0 0) 47 u.toNatClampNeg 0 0) 12 0 0 0) := by simp only [S_X12_comeBack, a2, c2, ↓reduceIte, d10]; rfl
      have hV : V_X11_comeBack g u = V_X12_comeBack m u := by
        have v1 : V_X11_comeBack g u = VL_X11_comeBack_48 g u 11 0 0 (s3 (s3 g 21 u.toNatClampNeg 0 0) 5 0 0 0) := by simp only [V_X11_comeBack, a1, c, ↓reduceIte]
        have v2 : V_X12_comeBack m u = VL_X12_comeBack_51 m u 11 0 0 (s3 (s3 (s3 m 1 0 0 0) 47 u.toNatClampNeg 0 0) 12 0 0 0) := by simp only [V_X12_comeBack, a2, c2, ↓reduceIte, d10]; rfl
        rw [v1, v2, r1]
      rw [hX, hV, hG, hS]
      refine pz_st (k := 0) (vInv_fin r2 (fun f => ?_) (fun f p => ?_) ?_) r8 rfl (fun _ => rfl) (p_ph (r3 14 (by decide) 0 0)) (vPb_mono r7) (p_pw (fun i j => r4 14 (by decide) i j))
      · have a := r5 f; have b := B.1 f; omega
      · have a := r6 f p; have b := B.2.1 f p; omega
      · rw [r3 9 (by decide), r3 11 (by decide), r3 0 (by decide)]; have := B.2.2; omega
  · have hG : S_X11_comeBack g u = g := by simp only [S_X11_comeBack, a1, n10, ↓reduceIte]
    have hX : X_X11_comeBack g u = 1 := by simp only [X_X11_comeBack, a1, n10, ↓reduceIte]
    rw [hG, hX]
    exact pz_ro h (k := 1) (by simp only [S_X12_comeBack, a2, ↓reduceIte, S_X12_isWrong]) rfl (fun q => absurd q (by decide))
