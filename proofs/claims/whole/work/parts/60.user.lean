/-- what a new user's row is -/
theorem Z_user_o {g : vS} {w : Nat} {a x : Int32} {c i j : Nat} (h : i ≠ w) : Z_user g w a x c i j = g c i j := by
  unfold Z_user
  rw [s3_i h, s3_i h, s3_i h, s2_i h, s2_i h, s2_i h, s2_i h, s2_i h, s2_i h, s2_i h, s2_i h, s2_i h, s2_i h, s2_i h, s2_i h]
theorem Z_user_c {g : vS} {w : Nat} {a x : Int32} {c i j : Nat} (h : c ∉ ([20, 21, 22, 23, 24, 25, 26, 27, 28, 30, 31, 32, 103] : List Nat)) : Z_user g w a x c i j = g c i j := by
  have q : ∀ k ∈ ([20, 21, 22, 23, 24, 25, 26, 27, 28, 30, 31, 32, 103] : List Nat), c ≠ k := fun k hk e => h (e ▸ hk)
  unfold Z_user
  rw [s3_k (q 103 (by decide)), s3_k (q 20 (by decide)), s3_k (q 28 (by decide)), s2_k (q 32 (by decide)), s2_k (q 31 (by decide)), s2_k (q 30 (by decide)), s2_k (q 28 (by decide)), s2_k (q 27 (by decide)), s2_k (q 26 (by decide)), s2_k (q 25 (by decide)), s2_k (q 24 (by decide)), s2_k (q 23 (by decide)), s2_k (q 22 (by decide)), s2_k (q 21 (by decide)), s2_k (q 20 (by decide))]
theorem Z_user_0 {g : vS} {w : Nat} {a x : Int32} {c j : Nat} (h : c ∈ ([20, 21, 22, 23, 24, 25, 26, 27, 30, 31, 32] : List Nat)) (hz : g c w j = 0) : Z_user g w a x c w j = if c = 20 ∧ j = 0 then x else 0 := by
  unfold Z_user
  rw [s3_k (nm h (by decide))]
  by_cases d : c = 20 ∧ j = 0
  · rw [if_pos d, d.1, d.2, s3_s]
  · rw [if_neg d]
    have e : ∀ G : vS, s3 G 20 w 0 x c w j = G c w j := fun G => if_neg (fun q => d ⟨q.1, q.2.2⟩)
    rw [e, s3_k (nm h (by decide))]
    have q : ∀ (G : vS) (k : Nat), G c w j = 0 → s2 G k w c w j = 0 := fun G k hG => by
      unfold s2
      split
      · rfl
      · exact hG
    exact q _ _ (q _ _ (q _ _ (q _ _ (q _ _ (q _ _ (q _ _ (q _ _ (q _ _ (q _ _ (q _ _ (q _ _ hz)))))))))))
theorem Z_user_28 {g : vS} {w : Nat} {a x : Int32} : Z_user g w a x 28 w 0 = a := by
  unfold Z_user
  rw [s3_k (by decide), s3_k (by decide), s3_s]
theorem Z_user_103 {g : vS} {w : Nat} {a x : Int32} : Z_user g w a x 103 w 0 = 1 := by
  unfold Z_user
  exact s3_s
theorem vInv_user {n : Nat} {g m : vS} {x : Int32} (h : vInv n g m) (hc : (g 0 0 0).toInt < 6) (hx9 : 0 ≤ x.toInt ∧ x.toInt ≤ 9999) : vInv (n + 1) (s3 (Z_user g (g 0 0 0).toNatClampNeg (g 0 0 0) x) 0 0 0 (g 0 0 0 + 1)) (s3 (s3 (s3 m 1 0 0 0) 41 (g 0 0 0).toNatClampNeg 0 x) 2 0 0 (g 0 0 0 + 1)) := by
  obtain ⟨hE, hrU, hrUz, hrD, hrG, hrGz, hrK, hrF, hrFz, hrP, hrV, hrLg, hrW, hrC, hrS, hrQ, hrT, hrX, hrH, hrJ, hrN⟩ := h
  obtain ⟨u1, u2, u3, u4, u5⟩ := hrU
  have hw := tnI u1
  generalize hwd : (g 0 0 0).toNatClampNeg = w at hw
  have e1 : (g 0 0 0 + 1).toInt = (g 0 0 0).toInt + 1 := q_add1 (by omega)
  have z : ∀ c ∈ ([20, 21, 22, 23, 24, 25, 26, 27, 30, 31, 32] : List Nat), ∀ k, g c w k = 0 := fun c hc k => by
    obtain ⟨z1, z2, z3, z4, z5, z6, z7, z8, z9, za, zb⟩ := hrUz w k (by omega)
    simp only [List.mem_cons, List.not_mem_nil, or_false] at hc
    rcases hc with rfl | rfl | rfl | rfl | rfl | rfl | rfl | rfl | rfl | rfl | rfl <;> assumption
  have G0 : ∀ c i j, c ≠ 0 → s3 (Z_user g w (g 0 0 0) x) 0 0 0 (g 0 0 0 + 1) c i j = Z_user g w (g 0 0 0) x c i j := fun c i j d => s3_k d
  have Gc : ∀ c i j, c ∉ ([0, 20, 21, 22, 23, 24, 25, 26, 27, 28, 30, 31, 32, 103] : List Nat) → s3 (Z_user g w (g 0 0 0) x) 0 0 0 (g 0 0 0 + 1) c i j = g c i j := fun c i j d => (s3_k (fun e => d (by rw [e]; decide))).trans (Z_user_c (fun q => d (List.mem_cons_of_mem _ q)))
  have Gi : ∀ c i j, c ≠ 0 → i ≠ w → s3 (Z_user g w (g 0 0 0) x) 0 0 0 (g 0 0 0 + 1) c i j = g c i j := fun c i j d e => (s3_k d).trans (Z_user_o e)
  have Gw : ∀ c ∈ ([20, 21, 22, 23, 24, 25, 26, 27, 30, 31, 32] : List Nat), ∀ j, s3 (Z_user g w (g 0 0 0) x) 0 0 0 (g 0 0 0 + 1) c w j = if c = 20 ∧ j = 0 then x else 0 := fun c hc j => (s3_k (nm hc (by decide))).trans (Z_user_0 hc (z c hc j))
  have Gz : ∀ c ∈ ([21, 22, 23, 24, 25, 26, 27, 30, 31, 32] : List Nat), ∀ i j, s3 (Z_user g w (g 0 0 0) x) 0 0 0 (g 0 0 0 + 1) c i j = g c i j := fun c hc i j => by
    by_cases e : i = w
    · rw [e, Gw c (List.mem_cons_of_mem _ hc), if_neg (fun q => absurd q.1 (nm hc (by decide))), z c (List.mem_cons_of_mem _ hc)]
    · exact Gi c i j (nm hc (by decide)) e
  have Gg : ∀ c, c ∉ ([0, 20, 28, 103] : List Nat) → ∀ i j, s3 (Z_user g w (g 0 0 0) x) 0 0 0 (g 0 0 0 + 1) c i j = g c i j := fun c hc i j => by
    by_cases d : c ∈ ([21, 22, 23, 24, 25, 26, 27, 30, 31, 32] : List Nat)
    · exact Gz c d i j
    · refine Gc c i j (fun q => ?_)
      simp only [List.mem_cons, List.not_mem_nil, or_false] at hc d q
      omega
  have Mm : ∀ c, c ∉ ([1, 2, 41] : List Nat) → ∀ i j, s3 (s3 (s3 m 1 0 0 0) 41 w 0 x) 2 0 0 (g 0 0 0 + 1) c i j = m c i j := fun c hc i j => by
    have q : ∀ k ∈ ([1, 2, 41] : List Nat), c ≠ k := fun k hk e => hc (e ▸ hk)
    rw [s3_k (q 2 (by decide)), s3_k (q 41 (by decide)), s3_k (q 1 (by decide))]
  have E' : rE (s3 (Z_user g w (g 0 0 0) x) 0 0 0 (g 0 0 0 + 1)) (s3 (s3 (s3 m 1 0 0 0) 41 w 0 x) 2 0 0 (g 0 0 0 + 1)) := by
    intro q hq i j
    by_cases c0 : q = (0, 2)
    · subst c0
      unfold s3
      by_cases d : i = 0 ∧ j = 0
      · rw [if_pos ⟨rfl, d⟩, if_pos ⟨rfl, d⟩]
      · rw [if_neg (fun z => d z.2), if_neg (fun z => d z.2), Z_user_c (by decide), if_neg (fun z => absurd z.1 (by decide)), if_neg (fun z => absurd z.1 (by decide))]
        exact hE (0, 2) (by decide) i j
    · by_cases c1 : q = (20, 41)
      · subst c1
        rw [show s3 (s3 (s3 m 1 0 0 0) 41 w 0 x) 2 0 0 (g 0 0 0 + 1) 41 i j = s3 (s3 m 1 0 0 0) 41 w 0 x 41 i j from s3_k (by decide)]
        have q2 := hE (20, 41) (by decide) i j
        by_cases e : i = w
        · subst e
          rw [Gw 20 (by decide)]
          by_cases d : j = 0
          · subst d; rw [if_pos ⟨rfl, rfl⟩, s3_s]
          · rw [if_neg (fun q => d q.2), s3_j d, s3_k (by decide), ← q2]
            exact (z 20 (by decide) j).symm
        · rw [Gi 20 i j (by decide) e, s3_i e, s3_k (by decide)]; exact q2
      · have k1 : ∀ q ∈ vPairs, q ≠ (0, 2) → q ≠ (20, 41) → q.1 ∉ ([0, 20, 28, 103] : List Nat) ∧ q.2 ∉ ([1, 2, 41] : List Nat) := by decide
        have k2 := k1 q hq c0 c1
        rw [Gg _ k2.1, Mm _ k2.2]; exact hE q hq i j
  have n0 : s3 (Z_user g w (g 0 0 0) x) 0 0 0 (g 0 0 0 + 1) 0 0 0 = g 0 0 0 + 1 := s3_s
  have HJ : rJ (s3 (Z_user g w (g 0 0 0) x) 0 0 0 (g 0 0 0 + 1)) := by
    intro u
    by_cases e : u = w
    · rw [e, Gw 20 (by decide), if_pos ⟨rfl, rfl⟩]; exact hx9
    · rw [Gi 20 u 0 (by decide) e]; exact hrJ u
  have HU : rU (s3 (Z_user g w (g 0 0 0) x) 0 0 0 (g 0 0 0 + 1)) := by
    unfold rU
    rw [n0, e1]
    refine ⟨by omega, by omega, fun u => ?_, fun u hu => ?_, fun u => ?_⟩
    · by_cases e : u = w
      · rw [e, G0 103 w 0 (by decide), Z_user_103]
        exact ⟨fun q => absurd q (by decide), fun q => by omega⟩
      · rw [Gi 103 u 0 (by decide) e, u3 u]; omega
    · by_cases e : u = w
      · rw [e, G0 28 w 0 (by decide), Z_user_28, ← hwd, q_nI u1]
      · rw [Gi 28 u 0 (by decide) e]; exact u4 u (by omega)
    · rw [Gg 22 (by decide), Gg 25 (by decide), Gg 26 (by decide)]; exact u5 u
  have HZ : rUz (s3 (Z_user g w (g 0 0 0) x) 0 0 0 (g 0 0 0 + 1)) := by
    intro u k hu
    rw [n0, e1] at hu
    have e : u ≠ w := by omega
    rw [Gi 20 u k (by decide) e, Gi 21 u k (by decide) e, Gi 22 u k (by decide) e, Gi 23 u k (by decide) e, Gi 24 u k (by decide) e, Gi 25 u k (by decide) e, Gi 26 u k (by decide) e, Gi 27 u k (by decide) e, Gi 30 u k (by decide) e, Gi 31 u k (by decide) e, Gi 32 u k (by decide) e]
    exact hrUz u k (by omega)
  have HG : rG (s3 (Z_user g w (g 0 0 0) x) 0 0 0 (g 0 0 0 + 1)) := by
    obtain ⟨g1, g2, g3, g4, g5, g6, g7⟩ := hrG
    have a1 := Gg 1 (by decide); have a104 := Gg 104 (by decide); have a48 := Gg 48 (by decide); have a46 := Gg 46 (by decide); have a41 := Gg 41 (by decide); have a44 := Gg 44 (by decide); have a40 := Gg 40 (by decide); have a43 := Gg 43 (by decide)
    unfold rG
    simp only [n0, e1, a1, a104, a48, a46, a41, a44, a40, a43]
    exact ⟨g1, g2, g3, g4, g5, fun i u => (g6 i u).imp id (fun q => ⟨q.1, by omega, q.2.2⟩), g7⟩
  have HN : rN (n + 1) (s3 (Z_user g w (g 0 0 0) x) 0 0 0 (g 0 0 0 + 1)) (s3 (s3 (s3 m 1 0 0 0) 41 w 0 x) 2 0 0 (g 0 0 0 + 1)) := by
    obtain ⟨n1, n2, n3, n4, n5, n6, L, n7, n8, n9, na, nb⟩ := hrN
    have a51 := Gg 51 (by decide); have a9 := Gg 9 (by decide); have a8 := Gg 8 (by decide); have a11 := Gg 11 (by decide); have a43 := Gg 43 (by decide); have a42 := Gg 42 (by decide); have a1 := Gg 1 (by decide); have b63 := Mm 63 (by decide); have b6 := Mm 6 (by decide)
    unfold rN
    simp only [n0, e1, a51, a9, a8, a11, a43, a42, a1, b63, b6]
    exact ⟨fun f => by have := n1 f; omega, fun f p => by have := n2 f p; omega, n3, n4, n5, by omega, L, n7, n8, n9, fun q => by have := na q; omega, nb⟩
  exact ⟨E', HU, HZ, (rD_k (fun c hc i j => Gg c ((by decide : ∀ c ∈ ([2, 27, 30] : List Nat), c ∉ ([0, 20, 28, 103] : List Nat)) c hc) i j)  hrD), HG, (rGz_k (fun c hc i j => Gg c ((by decide : ∀ c ∈ ([1, 40, 41, 42, 43, 44] : List Nat), c ∉ ([0, 20, 28, 103] : List Nat)) c hc) i j)  hrGz), (rK_k (fun c hc i j => Gg c ((by decide : ∀ c ∈ ([1, 42, 47] : List Nat), c ∉ ([0, 20, 28, 103] : List Nat)) c hc) i j) (fun c hc i j => Mm c ((by decide : ∀ c ∈ ([54] : List Nat), c ∉ ([1, 2, 41] : List Nat)) c hc) i j) hrK), (rF_k (fun c hc i j => Gg c ((by decide : ∀ c ∈ ([1, 2, 42, 50, 51, 61, 62, 63, 66, 105] : List Nat), c ∉ ([0, 20, 28, 103] : List Nat)) c hc) i j) (fun c hc i j => Mm c ((by decide : ∀ c ∈ ([13, 59] : List Nat), c ∉ ([1, 2, 41] : List Nat)) c hc) i j) hrF), (rFz_k (fun c hc i j => Gg c ((by decide : ∀ c ∈ ([2, 50, 51, 52, 53, 106] : List Nat), c ∉ ([0, 20, 28, 103] : List Nat)) c hc) i j)  hrFz), (rP_k (fun c hc i j => Gg c ((by decide : ∀ c ∈ ([11, 42, 50, 56, 57, 58, 59, 60, 64, 65, 67, 106] : List Nat), c ∉ ([0, 20, 28, 103] : List Nat)) c hc) i j) (fun c hc i j => Mm c ((by decide : ∀ c ∈ ([59, 61, 63, 65, 67] : List Nat), c ∉ ([1, 2, 41] : List Nat)) c hc) i j) hrP), (rV_k (fun c hc i j => Gg c ((by decide : ∀ c ∈ ([51] : List Nat), c ∉ ([0, 20, 28, 103] : List Nat)) c hc) i j) (fun c hc i j => Mm c ((by decide : ∀ c ∈ ([61] : List Nat), c ∉ ([1, 2, 41] : List Nat)) c hc) i j) hrV), (rLg_k (fun c hc i j => Gg c ((by decide : ∀ c ∈ ([4] : List Nat), c ∉ ([0, 20, 28, 103] : List Nat)) c hc) i j)  hrLg), (rW_k (fun c hc i j => Gg c ((by decide : ∀ c ∈ ([3, 71, 72] : List Nat), c ∉ ([0, 20, 28, 103] : List Nat)) c hc) i j)  hrW), (rC_k (fun c hc i j => Gg c ((by decide : ∀ c ∈ ([5] : List Nat), c ∉ ([0, 20, 28, 103] : List Nat)) c hc) i j)  hrC), (rS_k (fun c hc i j => Gg c ((by decide : ∀ c ∈ ([17, 82, 83] : List Nat), c ∉ ([0, 20, 28, 103] : List Nat)) c hc) i j) (fun c hc i j => Mm c ((by decide : ∀ c ∈ ([74] : List Nat), c ∉ ([1, 2, 41] : List Nat)) c hc) i j) hrS), (rQ_k (fun c hc i j => Gg c ((by decide : ∀ c ∈ ([1, 2, 41, 48, 50, 105, 106] : List Nat), c ∉ ([0, 20, 28, 103] : List Nat)) c hc) i j)  hrQ), (rT_k (fun c hc i j => Gg c ((by decide : ∀ c ∈ ([12, 13, 14, 75] : List Nat), c ∉ ([0, 20, 28, 103] : List Nat)) c hc) i j) (fun c hc i j => Mm c ((by decide : ∀ c ∈ ([6, 14, 71] : List Nat), c ∉ ([1, 2, 41] : List Nat)) c hc) i j) hrT), (rX_k (fun c hc i j => Gg c ((by decide : ∀ c ∈ ([16, 72, 73] : List Nat), c ∉ ([0, 20, 28, 103] : List Nat)) c hc) i j)  hrX), (rH_k (fun c hc i j => Gg c ((by decide : ∀ c ∈ ([1, 2, 11, 42, 44, 50, 60, 65, 85, 86, 106] : List Nat), c ∉ ([0, 20, 28, 103] : List Nat)) c hc) i j) (fun c hc i j => Mm c ((by decide : ∀ c ∈ ([54] : List Nat), c ∉ ([1, 2, 41] : List Nat)) c hc) i j) hrH), HJ, HN⟩
theorem pz_addUser : PZ_addUser vInv := by
  intro n g m h hn x
  have e2 := vE_ h (a := 0) (b := 2) (by decide) 0 0
  have hU := h.2.1
  have e9 : (9999 : Int32).toInt = 9999 := by decide
  by_cases c : 0 ≤ x.toInt ∧ x.toInt ≤ 9999
  · have b1 : V_X12_isBetween m x 0 9999 = 1 := isB1 (by rw [i00, e9]; omega)
    have c1 : ¬ x < 0 := by rw [i32_lt, i00]; omega
    have c2 : x ≤ 9999 := by rw [i32_le, e9]; omega
    have c3 : ¬ g 0 0 0 < 0 := by rw [i32_lt, i00]; have := hU.1; omega
    by_cases d : (g 0 0 0).toInt < 6
    · have d1 : g 0 0 0 < 6 := i32_lt.mpr d
      have d2 : ¬ g 0 0 0 = 6 := fun q => by rw [q] at d; exact absurd d (by decide)
      have hS : S_X12_addUser m x = s3 (s3 (s3 m 1 0 0 0) 41 (g 0 0 0).toNatClampNeg 0 x) 2 0 0 (g 0 0 0 + 1) := by simp only [S_X12_addUser, b1, e2, d2, ↓reduceIte, d10]; rfl
      have hG : S_X11_addUser g x = s3 (Z_user g (g 0 0 0).toNatClampNeg (g 0 0 0) x) 0 0 0 (g 0 0 0 + 1) := by simp only [S_X11_addUser, c1, c2, c3, d1, ↓reduceIte]
      have hX : X_X11_addUser g x = 0 := by simp only [X_X11_addUser, c1, c2, c3, d1, ↓reduceIte]
      rw [hS, hG, hX]
      refine pz_st (k := 0) (vInv_user h d c) ((s3_k (by decide)).trans ((s3_k (by decide)).trans s3_s)) rfl (fun _ => ?_) (p_ph ((s3_k (by decide)).trans (Z_user_c (by decide)))) (p_pb (fun _ _ => (s3_k (by decide)).trans ((s3_k (by decide)).trans (s3_k (by decide))))) (p_pw (fun _ _ => (s3_k (by decide)).trans ((s3_k (by decide)).trans (s3_k (by decide)))))
      simp only [V_X11_addUser, V_X12_addUser, b1, e2, c1, c2, c3, d1, d2, ↓reduceIte, d10]
    · have d1 : ¬ g 0 0 0 < 6 := fun q => d (i32_lt.mp q)
      have d2 : g 0 0 0 = 6 := Int32.toInt_inj.mp (by have := hU.2.1; rw [show (6 : Int32).toInt = 6 from by decide]; omega)
      have hG : S_X11_addUser g x = g := by simp only [S_X11_addUser, c1, c2, c3, d1, ↓reduceIte]
      have hX : X_X11_addUser g x = 3 := by simp only [X_X11_addUser, c1, c2, c3, d1, ↓reduceIte]
      rw [hG, hX]
      exact pz_ro h (k := 2) (by simp only [S_X12_addUser, b1, e2, if_pos d2, ↓reduceIte, d10, S_X12_isWrong]) rfl (fun q => absurd q (by decide))
  · have b1 : V_X12_isBetween m x 0 9999 = 0 := isB0 (by rw [i00, e9]; omega)
    have hX : X_X11_addUser g x = 2 ∧ S_X11_addUser g x = g := by
      unfold X_X11_addUser S_X11_addUser
      by_cases c1 : x < 0
      · rw [if_pos c1, if_pos c1]; exact ⟨rfl, rfl⟩
      · have c2 : ¬ x ≤ 9999 := by rw [i32_lt, i00] at c1; rw [i32_le, e9]; omega
        rw [if_neg c1, if_neg c2, if_neg c1, if_neg c2]; exact ⟨rfl, rfl⟩
    rw [hX.1, hX.2]
    exact pz_ro h (k := 1) (by simp only [S_X12_addUser, b1, ↓reduceIte, S_X12_isWrong]) rfl (fun q => absurd q (by decide))
