theorem first_g {g : vS} {x : Int32} : V_X5_firstOnes g x = V_X5_firstOnes vS0 x := by
  have L : ∀ (k i : Nat) (y : Int32), VL_X5_firstOnes_4 g x k i y = VL_X5_firstOnes_4 vS0 x k i y := by
    intro k
    induction k with
    | zero => intro i y; rfl
    | succ k ih => intro i y; unfold VL_X5_firstOnes_4; rw [ih]
  exact L _ _ _
theorem qhalf_g {g : vS} {x : Int32} : V_X12_half g x = V_X12_half vS0 x := by
  have L : ∀ (k : Nat) (y : Int32), VL_X12_half_2 g x k y = VL_X12_half_2 vS0 x k y := by
    intro k
    induction k with
    | zero => intro y; rfl
    | succ k ih => intro y; unfold VL_X12_half_2; rw [ih]
  exact L _ _
def hN (k : Nat) : Nat := (V_X12_half vS0 (nI k)).toNatClampNeg
theorem half_dec : ∀ k : Fin 301, V_X5_firstOnes vS0 (nI k) = nI (hN k) ∧ V_X12_half vS0 (nI k) = nI (hN k) ∧ (2 ≤ k.val → 1 ≤ hN k ∧ hN k < k.val ∧ k.val ≤ 2 * hN k ∧ ∀ d : Fin 9, k.val ≤ 2 ^ (d.val + 1) → hN k ≤ 2 ^ d.val) := by decide +kernel
theorem half_1 {g : vS} {k : Nat} (h : k ≤ 300) : V_X5_firstOnes g (nI k) = nI (hN k) := first_g.trans (half_dec ⟨k, by omega⟩).1
theorem half_2 {g : vS} {k : Nat} (h : k ≤ 300) : V_X12_half g (nI k) = nI (hN k) := qhalf_g.trans (half_dec ⟨k, by omega⟩).2.1
theorem half_3 {k : Nat} (h : k ≤ 300) (h2 : 2 ≤ k) : 1 ≤ hN k ∧ hN k < k ∧ k ≤ 2 * hN k := by
  have q := (half_dec ⟨k, by omega⟩).2.2 h2
  exact ⟨q.1, q.2.1, q.2.2.1⟩
theorem half_4 {k d : Nat} (h : k ≤ 300) (h2 : 2 ≤ k) (hd : d < 9) (q : k ≤ 2 ^ (d + 1)) : hN k ≤ 2 ^ d := ((half_dec ⟨k, by omega⟩).2.2 h2).2.2.2 ⟨d, hd⟩ q
theorem qnI_add {a b : Nat} : nI a + nI b = nI (a + b) := (Int32.ofNat_add a b).symm
theorem qnI_sub {a b : Nat} (h : b ≤ a) : nI a - nI b = nI (a - b) := by
  have e : nI a = nI (a - b) + nI b := by rw [qnI_add, Nat.sub_add_cancel h]
  rw [e, Int32.add_sub_cancel]
theorem qnI_eq {a b : Nat} (ha : a < 2147483648) (hb : b < 2147483648) : (nI a = nI b) = (a = b) := propext ⟨fun h => by
  have := congrArg Int32.toInt h
  rw [nI_toInt ha, nI_toInt hb] at this
  omega, fun h => by rw [h]⟩
theorem qnI_lt {a b : Nat} (ha : a < 2147483648) (hb : b < 2147483648) : (nI a < nI b) = (a < b) := propext (by rw [i32_lt, nI_toInt ha, nI_toInt hb]; omega)
theorem qnI_le {a b : Nat} (ha : a < 2147483648) (hb : b < 2147483648) : (nI a ≤ nI b) = (a ≤ b) := propext (by rw [i32_le, nI_toInt ha, nI_toInt hb]; omega)
theorem rootE {g m : vS} (hl : ∀ k, g 80 k 0 = m 73 k 0) : ∀ (d a s n N : Nat) (l : Int32), d ≤ 9 → s ≤ 2 ^ d → a + s ≤ 300 → d < n → d < N → 0 ≤ l.toInt → l.toInt + d ≤ 12 → VR_X5_rootOfRange g n (nI a) (nI s) l = VR_X12_rootOf m N (nI a) (nI s) := by
  intro d
  induction d with
  | zero =>
    intro a s n N l hd hs ha hn hNN h0 h1
    obtain ⟨n, rfl⟩ : ∃ k, n = k + 1 := ⟨n - 1, by omega⟩
    obtain ⟨N, rfl⟩ : ∃ k, N = k + 1 := ⟨N - 1, by omega⟩
    have hs : s = 0 ∨ s = 1 := by omega
    unfold VR_X5_rootOfRange VR_X12_rootOf
    have hll : ¬ (12 : Int32) < l := by rw [i32_lt, show (12 : Int32).toInt = 12 from by decide]; omega
    rcases hs with rfl | rfl
    · rw [if_pos (by decide : nI 0 < 1), if_pos (by decide : nI 0 = 0)]
    · have c1 : ¬ nI a < 0 := by rw [i32_lt, i00, nI_toInt (by omega)]; omega
      have c2 : nI a < 300 := by rw [i32_lt, show (300 : Int32).toInt = 300 from by decide, nI_toInt (by omega)]; omega
      rw [if_neg (by decide : ¬ nI 1 < 1), if_neg hll, if_neg c1, if_pos c2, if_pos (by decide : nI 1 = 1), if_neg (by decide : ¬ nI 1 = 0), if_pos (by decide : nI 1 = 1), hl]
  | succ d ih =>
    intro a s n N l hd hs ha hn hNN h0 h1
    obtain ⟨n, rfl⟩ : ∃ k, n = k + 1 := ⟨n - 1, by omega⟩
    obtain ⟨N, rfl⟩ : ∃ k, N = k + 1 := ⟨N - 1, by omega⟩
    by_cases h2 : 2 ≤ s
    · unfold VR_X5_rootOfRange VR_X12_rootOf
      have q := half_3 (k := s) (by omega) h2
      have q4 := half_4 (k := s) (d := d) (by omega) h2 (by omega) hs
      have hll : ¬ (12 : Int32) < l := by rw [i32_lt, show (12 : Int32).toInt = 12 from by decide]; omega
      have e1 : ¬ nI s < 1 := by rw [i32_lt, nI_toInt (by omega), show (1 : Int32).toInt = 1 from by decide]; omega
      have e2 : ¬ nI s = 1 := by rw [show (1 : Int32) = nI 1 from rfl, qnI_eq (by omega) (by omega)]; omega
      have e3 : ¬ nI s = 0 := by rw [show (0 : Int32) = nI 0 from rfl, qnI_eq (by omega) (by omega)]; omega
      have el : (l + 1).toInt = l.toInt + 1 := q_add1 (by omega)
      have c1 : ¬ nI a < 0 := by rw [i32_lt, i00, nI_toInt (by omega)]; omega
      have c2 : nI a < 300 := by rw [i32_lt, show (300 : Int32).toInt = 300 from by decide, nI_toInt (by omega)]; omega
      rw [if_neg e1, if_neg hll, if_neg c1, if_pos c2, if_neg e2, if_neg e3, if_neg e2, half_1 (by omega), half_2 (by omega), qnI_add, qnI_sub (by omega), ih a (hN s) n N (l + 1) (by omega) q4 (by omega) (by omega) (by omega) (by omega) (by omega), ih (a + hN s) (s - hN s) n N (l + 1) (by omega) (by omega) (by omega) (by omega) (by omega) (by omega) (by omega)]
    · have hs : s = 0 ∨ s = 1 := by omega
      unfold VR_X5_rootOfRange VR_X12_rootOf
      have hll : ¬ (12 : Int32) < l := by rw [i32_lt, show (12 : Int32).toInt = 12 from by decide]; omega
      rcases hs with rfl | rfl
      · rw [if_pos (by decide : nI 0 < 1), if_pos (by decide : nI 0 = 0)]
      · have c1 : ¬ nI a < 0 := by rw [i32_lt, i00, nI_toInt (by omega)]; omega
        have c2 : nI a < 300 := by rw [i32_lt, show (300 : Int32).toInt = 300 from by decide, nI_toInt (by omega)]; omega
        rw [if_neg (by decide : ¬ nI 1 < 1), if_neg hll, if_neg c1, if_pos c2, if_pos (by decide : nI 1 = 1), if_neg (by decide : ¬ nI 1 = 0), if_pos (by decide : nI 1 = 1), hl]
theorem rootE0 {g m : vS} (hl : ∀ k, g 80 k 0 = m 73 k 0) {x : Int32} (h0 : 0 ≤ x.toInt) (h1 : x.toInt ≤ 300) : V_X5_rootOf g x = V_X12_rootOf m 0 x := by
  have e := q_nI h0
  have a := tnI h0
  have r := rootE hl 9 0 x.toNatClampNeg 13 300 0 (by omega) (by omega) (by omega) (by omega) (by omega) (by decide) (by decide)
  rw [e] at r
  exact r
theorem root_w {m M : vS} (h : ∀ i j, M 73 i j = m 73 i j) {a y : Int32} : V_X12_rootOf M a y = V_X12_rootOf m a y := by
  have L : ∀ (k : Nat) (a y : Int32), VR_X12_rootOf M k a y = VR_X12_rootOf m k a y := by
    intro k
    induction k with
    | zero => intro a y; rfl
    | succ k ih =>
      intro a y
      unfold VR_X12_rootOf
      rw [h, ih, ih, qhalf_g (g := M), qhalf_g (g := m)]
  exact L _ _ _
theorem pz_root : PZ_root vInv := by
  intro n g m h hn x
  have b := bL h
  have e73 := vE_ h (a := 80) (b := 73) (by decide)
  rcases nLv h x with ⟨a1, a2, a3, a4⟩ | ⟨a1, a2⟩
  · refine pz_ro h (k := 0) ?_ ?_ ?_
    · simp only [S_X12_root, a2, S_X12_isWrong, ↓reduceIte, d10]
    · simp only [X_X11_root, a1, ↓reduceIte]; rfl
    · intro _
      simp only [V_X11_root, V_X12_root, a1, a2, ↓reduceIte, d10]
      exact (rootE0 (fun k => (e73 k 0).symm) a3 (by omega)).trans (root_w (fun _ _ => s3_k (by decide))).symm
  · refine pz_ro h (k := 1) ?_ ?_ ?_
    · simp only [S_X12_root, a2, S_X12_isWrong, ↓reduceIte]
    · simp only [X_X11_root, a1, n20, ↓reduceIte]; rfl
    · intro q; exact absurd q (by simp only [X_X11_root, a1, n20, ↓reduceIte]; decide)
theorem headE {n : Nat} {g m : vS} (h : vInv n g m) {k u : Int32} : V_X12_isShown (S_X12_isWrong m k) u = V_X11_isHeadInLog g u.toNatClampNeg := by
  have b := bL h
  have e11 := eL h
  have e73 := vE_ h (a := 80) (b := 73) (by decide)
  have e42 := vE_ h (a := 22) (b := 42) (by decide)
  have e43 := vE_ h (a := 23) (b := 43) (by decide)
  have u5 := h.2.1.2.2.2.2 u.toNatClampNeg
  show V_X12_isShown (s3 m 1 0 0 k) u = _
  unfold V_X12_isShown V_X11_isHeadInLog V_X5_count
  rw [show s3 m 1 0 0 k 11 0 0 = g 4 0 0 from (s3_k (by decide)).trans e11, show s3 m 1 0 0 k 42 u.toNatClampNeg 0 = g 22 u.toNatClampNeg 0 from (s3_k (by decide)).trans (e42 _ _), show s3 m 1 0 0 k 43 u.toNatClampNeg 0 = g 23 u.toNatClampNeg 0 from (s3_k (by decide)).trans (e43 _ _)]
  by_cases c : g 4 0 0 < g 22 u.toNatClampNeg 0
  · rw [if_pos c, if_pos c]
  · rw [if_neg c, if_neg c]
    rw [i32_lt] at c
    rw [root_w (m := m) (M := s3 m 1 0 0 k) (fun _ _ => s3_k (by decide)), ← rootE0 (fun k => (e73 k 0).symm) u5.1 (by omega)]
theorem rU_22 {g : vS} {w : Nat} {x y : Int32} (h : rU g) (c : 0 ≤ x.toInt) : rU (s3 (s3 g 22 w 0 x) 23 w 0 y) := by
  obtain ⟨h1, h2, h3, h4, h5⟩ := h
  refine ⟨h1, h2, h3, h4, fun u => ?_⟩
  have q := h5 u
  rw [show s3 (s3 g 22 w 0 x) 23 w 0 y 25 u 0 = g 25 u 0 from (s3_k (by decide)).trans (s3_k (by decide)), show s3 (s3 g 22 w 0 x) 23 w 0 y 26 u 0 = g 26 u 0 from (s3_k (by decide)).trans (s3_k (by decide)), show s3 (s3 g 22 w 0 x) 23 w 0 y 22 u 0 = s3 g 22 w 0 x 22 u 0 from s3_k (by decide)]
  refine ⟨?_, q.2⟩
  by_cases e : u = w
  · rw [e, s3_s]; exact c
  · rw [s3_i e]; exact q.1
theorem vInv_alarm {n : Nat} {g m : vS} {w : Nat} {v : Int32} (h : vInv n g m) (c : (w : Int) < (g 0 0 0).toInt) : vInv n (s3 g 24 w 0 v) (s3 m 44 w 0 v) := by
  obtain ⟨hE, hrU, hrUz, hrD, hrG, hrGz, hrK, hrF, hrFz, hrP, hrV, hrLg, hrW, hrC, hrS, hrQ, hrT, hrX, hrH, hrJ, hrN⟩ := h
  exact ⟨rE_s (by decide) (by decide) hE, rU_k (fun c hc i j => s3_k (nm hc (by decide)))  hrU, rUz_1 hrUz (by decide) c, rD_k (fun c hc i j => s3_k (nm hc (by decide)))  hrD, rG_k (fun c hc i j => s3_k (nm hc (by decide)))  hrG, rGz_k (fun c hc i j => s3_k (nm hc (by decide)))  hrGz, rK_k (fun c hc i j => s3_k (nm hc (by decide))) (fun c hc i j => s3_k (nm hc (by decide))) hrK, rF_k (fun c hc i j => s3_k (nm hc (by decide))) (fun c hc i j => s3_k (nm hc (by decide))) hrF, rFz_k (fun c hc i j => s3_k (nm hc (by decide)))  hrFz, rP_k (fun c hc i j => s3_k (nm hc (by decide))) (fun c hc i j => s3_k (nm hc (by decide))) hrP, rV_k (fun c hc i j => s3_k (nm hc (by decide))) (fun c hc i j => s3_k (nm hc (by decide))) hrV, rLg_k (fun c hc i j => s3_k (nm hc (by decide)))  hrLg, rW_k (fun c hc i j => s3_k (nm hc (by decide)))  hrW, rC_k (fun c hc i j => s3_k (nm hc (by decide)))  hrC, rS_k (fun c hc i j => s3_k (nm hc (by decide))) (fun c hc i j => s3_k (nm hc (by decide))) hrS, rQ_k (fun c hc i j => s3_k (nm hc (by decide)))  hrQ, rT_k (fun c hc i j => s3_k (nm hc (by decide))) (fun c hc i j => s3_k (nm hc (by decide))) hrT, rX_k (fun c hc i j => s3_k (nm hc (by decide)))  hrX, rH_k (fun c hc i j => s3_k (nm hc (by decide))) (fun c hc i j => s3_k (nm hc (by decide))) hrH, rJ_k (fun c hc i j => s3_k (nm hc (by decide)))  hrJ, rN_k (fun c hc i j => s3_k (nm hc (by decide))) (fun c hc i j => s3_k (nm hc (by decide))) hrN⟩
theorem vInv_head {n : Nat} {g m : vS} {w : Nat} {x y : Int32} (h : vInv n g m) (c : (w : Int) < (g 0 0 0).toInt) (d : 0 ≤ x.toInt) : vInv n (s3 (s3 g 22 w 0 x) 23 w 0 y) (s3 (s3 m 42 w 0 x) 43 w 0 y) := by
  obtain ⟨hE, hrU, hrUz, hrD, hrG, hrGz, hrK, hrF, hrFz, hrP, hrV, hrLg, hrW, hrC, hrS, hrQ, hrT, hrX, hrH, hrJ, hrN⟩ := h
  exact ⟨rE_s (by decide) (by decide) (rE_s (by decide) (by decide) hE), rU_22 hrU d, rUz_1 (rUz_1 hrUz (by decide) c) (by decide) c, rD_k (fun c hc i j => (s3_k (nm hc (by decide))).trans (s3_k (nm hc (by decide))))  hrD, rG_k (fun c hc i j => (s3_k (nm hc (by decide))).trans (s3_k (nm hc (by decide))))  hrG, rGz_k (fun c hc i j => (s3_k (nm hc (by decide))).trans (s3_k (nm hc (by decide))))  hrGz, rK_k (fun c hc i j => (s3_k (nm hc (by decide))).trans (s3_k (nm hc (by decide)))) (fun c hc i j => (s3_k (nm hc (by decide))).trans (s3_k (nm hc (by decide)))) hrK, rF_k (fun c hc i j => (s3_k (nm hc (by decide))).trans (s3_k (nm hc (by decide)))) (fun c hc i j => (s3_k (nm hc (by decide))).trans (s3_k (nm hc (by decide)))) hrF, rFz_k (fun c hc i j => (s3_k (nm hc (by decide))).trans (s3_k (nm hc (by decide))))  hrFz, rP_k (fun c hc i j => (s3_k (nm hc (by decide))).trans (s3_k (nm hc (by decide)))) (fun c hc i j => (s3_k (nm hc (by decide))).trans (s3_k (nm hc (by decide)))) hrP, rV_k (fun c hc i j => (s3_k (nm hc (by decide))).trans (s3_k (nm hc (by decide)))) (fun c hc i j => (s3_k (nm hc (by decide))).trans (s3_k (nm hc (by decide)))) hrV, rLg_k (fun c hc i j => (s3_k (nm hc (by decide))).trans (s3_k (nm hc (by decide))))  hrLg, rW_k (fun c hc i j => (s3_k (nm hc (by decide))).trans (s3_k (nm hc (by decide))))  hrW, rC_k (fun c hc i j => (s3_k (nm hc (by decide))).trans (s3_k (nm hc (by decide))))  hrC, rS_k (fun c hc i j => (s3_k (nm hc (by decide))).trans (s3_k (nm hc (by decide)))) (fun c hc i j => (s3_k (nm hc (by decide))).trans (s3_k (nm hc (by decide)))) hrS, rQ_k (fun c hc i j => (s3_k (nm hc (by decide))).trans (s3_k (nm hc (by decide))))  hrQ, rT_k (fun c hc i j => (s3_k (nm hc (by decide))).trans (s3_k (nm hc (by decide)))) (fun c hc i j => (s3_k (nm hc (by decide))).trans (s3_k (nm hc (by decide)))) hrT, rX_k (fun c hc i j => (s3_k (nm hc (by decide))).trans (s3_k (nm hc (by decide))))  hrX, rH_k (fun c hc i j => (s3_k (nm hc (by decide))).trans (s3_k (nm hc (by decide)))) (fun c hc i j => (s3_k (nm hc (by decide))).trans (s3_k (nm hc (by decide)))) hrH, rJ_k (fun c hc i j => (s3_k (nm hc (by decide))).trans (s3_k (nm hc (by decide))))  hrJ, rN_k (fun c hc i j => (s3_k (nm hc (by decide))).trans (s3_k (nm hc (by decide)))) (fun c hc i j => (s3_k (nm hc (by decide))).trans (s3_k (nm hc (by decide)))) hrN⟩
theorem pz_show : PZ_show vInv := by
  intro n g m h hn u x
  have b := bL h
  have e73 := vE_ h (a := 80) (b := 73) (by decide)
  have e42 := vE_ h (a := 22) (b := 42) (by decide)
  have e44 := vE_ h (a := 24) (b := 44) (by decide)
  have hw := vInv_w (k := 0) h
  rcases nU h u with ⟨a1, a2, a3, a4, a5, a6, a7⟩ | ⟨a1, a2, -⟩
  · rcases nLv h x with ⟨b1, b2, b3, b4⟩ | ⟨b1, b2⟩
    · have hX : X_X11_show g u x = 0 := by simp only [X_X11_show, a1, b1, ↓reduceIte]
      have al : (S_X11_show g u x = s3 g 24 u.toNatClampNeg 0 (g 24 u.toNatClampNeg 0 + 1) ∧ S_X12_show m u x = s3 (s3 m 1 0 0 0) 44 u.toNatClampNeg 0 (g 24 u.toNatClampNeg 0 + 1) ∧ V_X11_show g u x = V_X12_show m u x) ∨ (S_X11_show g u x = s3 (s3 g 22 u.toNatClampNeg 0 x) 23 u.toNatClampNeg 0 (V_X5_rootOf g x) ∧ S_X12_show m u x = s3 (s3 (s3 m 1 0 0 0) 42 u.toNatClampNeg 0 x) 43 u.toNatClampNeg 0 (V_X5_rootOf g x) ∧ V_X11_show g u x = V_X12_show m u x) := by
        by_cases c : x < g 22 u.toNatClampNeg 0
        · refine Or.inl ⟨?_, ?_, ?_⟩
          · simp only [S_X11_show, a1, b1, c, ↓reduceIte]
          · simp only [S_X12_show, a2, b2, e42, e44, c, ↓reduceIte, d10]; rfl
          · simp only [V_X11_show, V_X12_show, a1, b1, a2, b2, e42, c, ↓reduceIte, d10]
        · by_cases d : V_X11_isHeadInLog g u.toNatClampNeg = 0
          · refine Or.inl ⟨?_, ?_, ?_⟩
            · simp only [S_X11_show, a1, b1, c, d, ↓reduceIte]
            · simp only [S_X12_show, a2, b2, e42, e44, c, headE h, d, ↓reduceIte, d10]; rfl
            · simp only [V_X11_show, V_X12_show, a1, b1, a2, b2, e42, c, headE h, d, ↓reduceIte, d10]
          · refine Or.inr ⟨?_, ?_, ?_⟩
            · have r : V_X5_rootOf (s3 g 22 u.toNatClampNeg 0 x) x = V_X5_rootOf g x := (rootE0 (m := m) (fun k => (s3_k (by decide)).trans (e73 k 0).symm) b3 (by omega)).trans (rootE0 (fun k => (e73 k 0).symm) b3 (by omega)).symm
              simp only [S_X11_show, a1, b1, c, d, r, ↓reduceIte]
            · have r : V_X12_rootOf (s3 (S_X12_isWrong m 0) 42 u.toNatClampNeg 0 x) 0 x = V_X5_rootOf g x := (root_w (m := m) (fun _ _ => (s3_k (by decide)).trans (s3_k (by decide)))).trans (rootE0 (fun k => (e73 k 0).symm) b3 (by omega)).symm
              simp only [S_X12_show, a2, b2, e42, c, headE h, d, r, ↓reduceIte, d10]; rfl
            · simp only [V_X11_show, V_X12_show, a1, b1, a2, b2, e42, c, headE h, d, ↓reduceIte, d10]
      rcases al with ⟨hG, hS, hV⟩ | ⟨hG, hS, hV⟩
      · rw [hS, hG, hX, hV]
        exact pz_st (k := 0) (vInv_alarm hw (by omega)) ((s3_k (by decide)).trans s3_s) rfl (fun _ => rfl) (p_ph (s3_k (by decide))) (p_pb (fun _ _ => (s3_k (by decide)).trans (s3_k (by decide)))) (p_pw (fun _ _ => (s3_k (by decide)).trans (s3_k (by decide))))
      · rw [hS, hG, hX, hV]
        exact pz_st (k := 0) (vInv_head hw (by omega) b3) ((s3_k (by decide)).trans ((s3_k (by decide)).trans s3_s)) rfl (fun _ => rfl) (p_ph ((s3_k (by decide)).trans (s3_k (by decide)))) (p_pb (fun _ _ => (s3_k (by decide)).trans ((s3_k (by decide)).trans (s3_k (by decide))))) (p_pw (fun _ _ => (s3_k (by decide)).trans ((s3_k (by decide)).trans (s3_k (by decide)))))
    · have hG : S_X11_show g u x = g := by simp only [S_X11_show, a1, b1, n20, ↓reduceIte]
      have hX : X_X11_show g u x = 2 := by simp only [X_X11_show, a1, b1, n20, ↓reduceIte]
      rw [hG, hX]
      exact pz_ro h (k := 2) (by simp only [S_X12_show, a2, b2, ↓reduceIte, d10, S_X12_isWrong]) rfl (fun q => absurd q (by decide))
  · have hG : S_X11_show g u x = g := by simp only [S_X11_show, a1, n10, ↓reduceIte]
    have hX : X_X11_show g u x = 1 := by simp only [X_X11_show, a1, n10, ↓reduceIte]
    rw [hG, hX]
    exact pz_ro h (k := 1) (by simp only [S_X12_show, a2, ↓reduceIte, S_X12_isWrong]) rfl (fun q => absurd q (by decide))
