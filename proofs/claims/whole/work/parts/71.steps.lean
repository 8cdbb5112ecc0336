/-- the parts of a file, as a number -/
def pcC (g : vS) (f : Nat) : Nat → Nat
  | 0 => 0
  | j + 1 => pcC g f j + (if g 106 f j = 0 then 0 else 1)
theorem pcC_le {g : vS} {f : Nat} : ∀ k, pcC g f k ≤ k := by
  intro k
  induction k with
  | zero => exact Nat.le_refl _
  | succ k ih => unfold pcC; split <;> omega
theorem pcC_e {g : vS} {f : Nat} : V_X4_partCount g f = nI (pcC g f 8) := by
  have L : ∀ (k i : Nat), i + k = 9 → i ≤ 8 → VL_X4_partCount_4 g f k i (nI (pcC g f i)) = nI (pcC g f 8) := by
    intro k
    induction k with
    | zero => intro i hh hi; exfalso; omega
    | succ k ih =>
      intro i hh hi
      unfold VL_X4_partCount_4
      rw [show (8 : Int32) = nI 8 from rfl]
      by_cases c : 8 ≤ i
      · rw [if_pos (pLe (by omega) (by omega) c), show i = 8 from by omega]
      · rw [if_neg (nLe (by omega) (by omega) c)]
        have I := ih (i + 1) (by omega) (by omega)
        by_cases d : g 106 f i = 0
        · rw [if_pos d]
          rw [show pcC g f (i + 1) = pcC g f i from by rw [pcC, if_pos d]; rfl] at I
          exact I
        · rw [if_neg d, show (1 : Int32) = nI 1 from rfl, qnI_add]
          rw [show pcC g f (i + 1) = pcC g f i + 1 from by rw [pcC, if_neg d]] at I
          exact I
  exact L 9 0 (by omega) (by omega)
def poC (g : vS) (a : Nat) : Nat → Nat
  | 0 => 0
  | f + 1 => poC g a f + (if (g 50 f 0).toNatClampNeg = a then pcC g f 8 else 0)
theorem poC_le {g : vS} {a : Nat} : ∀ k, poC g a k ≤ 8 * k := by
  intro k
  induction k with
  | zero => exact Nat.le_refl _
  | succ k ih =>
    have := pcC_le (g := g) (f := k) 8
    unfold poC; split <;> omega
theorem poC_e {g m : vS} (hG : rG g) (hF : rF g m) {a : Nat} (ha : (a : Int) < (g 1 0 0).toInt) : V_X11_partsOf g a = nI (poC g a (g 2 0 0).toNatClampNeg) := by
  obtain ⟨f1, f2, f3, f4, f5⟩ := hF
  have tW := tnI f1
  have eW := q_nI f1
  generalize (g 2 0 0).toNatClampNeg = W at tW eW
  have L : ∀ (k i : Nat), i + k = 21 → i ≤ W → VL_X11_partsOf_4 g a k i (nI (poC g a i)) = nI (poC g a W) := by
    intro k
    induction k with
    | zero => intro i hh hi; exfalso; omega
    | succ k ih =>
      intro i hh hi
      unfold VL_X11_partsOf_4
      rw [← eW]
      by_cases c : W ≤ i
      · rw [if_pos (pLe (by omega) (by omega) c), show i = W from by omega]
      · have c2 : ¬ (20 : Int32) ≤ nI i := by rw [show (20 : Int32) = nI 20 from rfl, qnI_le (by omega) (by omega)]; omega
        have c3 : ¬ g 105 i 0 = 0 := fun q => by have := (f3 i).mp q; omega
        have gf := (f4 i (by omega)).2.2.2.1
        have g0 := tnI (f5 i).1
        have g5 := hG.2.1
        rw [if_neg (nLe (by omega) (by omega) c), if_neg c2, if_neg c3, (hG.2.2.2.1 _ (by omega)).1, (hG.2.2.2.1 a ha).1, pcC_e, qnI_add]
        have I := ih (i + 1) (by omega) (by omega)
        by_cases d : (g 50 i 0).toNatClampNeg = a
        · rw [if_pos (congrArg nI d)]
          rw [show poC g a (i + 1) = poC g a i + pcC g i 8 from by rw [poC, if_pos d]] at I
          exact I
        · rw [if_neg (nEq (by omega) (by omega) d)]
          rw [show poC g a (i + 1) = poC g a i from by rw [poC, if_neg d]; rfl] at I
          exact I
  exact L 21 0 (by omega) (by omega)
theorem rQ_n {g m : vS} (hG : rG g) (hF : rF g m) : rQ g ↔ ∀ i : Nat, (i : Int) < (g 1 0 0).toInt → (poC g i (g 2 0 0).toNatClampNeg : Int) ≤ (g 41 i 0).toInt := by
  have b : ∀ i, (nI (poC g i (g 2 0 0).toNatClampNeg)).toInt = (poC g i (g 2 0 0).toNatClampNeg : Int) := fun i => by
    have a := poC_le (g := g) (a := i) (g 2 0 0).toNatClampNeg
    have c := tnI hF.1
    have d := hF.2.1
    exact nI_toInt (by omega)
  exact ⟨fun h i hi => by have q := h i hi; rw [poC_e hG hF hi, b] at q; exact q, fun h i hi => by rw [poC_e hG hF hi, b]; exact h i hi⟩
theorem pcC_same {g G : vS} {f : Nat} (h : ∀ j, G 106 f j = g 106 f j) : ∀ k, pcC G f k = pcC g f k := by
  intro k
  induction k with
  | zero => rfl
  | succ k ih => unfold pcC; rw [ih, h]
theorem pcC_add {g G : vS} {f p : Nat} (h0 : g 106 f p = 0) (h1 : G 106 f p ≠ 0) (h : ∀ j, j ≠ p → G 106 f j = g 106 f j) : ∀ k, pcC G f k = pcC g f k + (if p < k then 1 else 0) := by
  intro k
  induction k with
  | zero => rfl
  | succ k ih =>
    unfold pcC
    rw [ih]
    by_cases c : k = p
    · subst c
      rw [if_neg (Nat.lt_irrefl _), if_neg h1, if_pos h0, if_pos (Nat.lt_succ_self _)]
    · rw [h k c]
      by_cases d : p < k
      · have t : (if p < k + 1 then 1 else 0 : Nat) = 1 := if_pos (by omega)
        have t0 : (if p < k then 1 else 0 : Nat) = 1 := if_pos d
        rw [t, t0]; omega
      · have t : (if p < k + 1 then 1 else 0 : Nat) = 0 := if_neg (by omega)
        have t0 : (if p < k then 1 else 0 : Nat) = 0 := if_neg d
        rw [t, t0]; omega
/-- one part more, or as many -/
theorem poC_add {g G : vS} {f p a : Nat} (hp : p < 8) (h50 : ∀ f, G 50 f 0 = g 50 f 0) (h0 : g 106 f p = 0) (h1 : G 106 f p ≠ 0) (h : ∀ i j, ¬ (i = f ∧ j = p) → G 106 i j = g 106 i j) : ∀ k, poC G a k = poC g a k + (if f < k ∧ (g 50 f 0).toNatClampNeg = a then 1 else 0) := by
  intro k
  induction k with
  | zero => rw [if_neg (fun z => absurd z.1 (Nat.not_lt_zero _))]; rfl
  | succ k ih =>
    unfold poC
    rw [ih, h50]
    by_cases c : k = f
    · subst c
      rw [pcC_add h0 h1 (fun j hj => h k j (fun z => hj z.2)), if_pos hp, if_neg (fun z => absurd z.1 (Nat.lt_irrefl _))]
      by_cases d : (g 50 k 0).toNatClampNeg = a
      · rw [if_pos d, if_pos d, if_pos ⟨Nat.lt_succ_self _, d⟩]; omega
      · rw [if_neg d, if_neg d, if_neg (fun z => d z.2)]
    · rw [pcC_same (fun j => h k j (fun z => c z.1))]
      by_cases d : f < k ∧ (g 50 f 0).toNatClampNeg = a
      · have t : (if f < k + 1 ∧ (g 50 f 0).toNatClampNeg = a then 1 else 0 : Nat) = 1 := if_pos ⟨by omega, d.2⟩
        have t0 : (if f < k ∧ (g 50 f 0).toNatClampNeg = a then 1 else 0 : Nat) = 1 := if_pos d
        rw [t, t0]; omega
      · have t : (if f < k + 1 ∧ (g 50 f 0).toNatClampNeg = a then 1 else 0 : Nat) = 0 := if_neg (fun z => d ⟨by omega, z.2⟩)
        have t0 : (if f < k ∧ (g 50 f 0).toNatClampNeg = a then 1 else 0 : Nat) = 0 := if_neg d
        rw [t, t0]; omega
theorem poC_le2 {g G : vS} {a : Nat} (h50 : ∀ f, G 50 f 0 = g 50 f 0) (h : ∀ i j, g 106 i j = 0 → G 106 i j = 0) : ∀ k, poC G a k ≤ poC g a k := by
  have q : ∀ f k, pcC G f k ≤ pcC g f k := fun f k => by
    induction k with
    | zero => exact Nat.le_refl _
    | succ k ih =>
      unfold pcC
      by_cases d : g 106 f k = 0
      · rw [if_pos d, if_pos (h f k d)]; omega
      · rw [if_neg d]; split <;> omega
  intro k
  induction k with
  | zero => exact Nat.le_refl _
  | succ k ih =>
    have := q k 8
    unfold poC
    rw [h50]
    split <;> omega
/-- a part sealed anew, or laid new -/
theorem st_part {n : Nat} {g m G M : vS} {f p : Nat} (h : vInv n g m) (h11 : (g 11 0 0).toInt ≤ 512) (hf : (f : Int) < (g 2 0 0).toInt) (hp : p < 8) (h61 : g 61 f 0 = g 42 (g 50 f 0).toNatClampNeg 0)
    (hG : ∀ c i j, ¬ (c ∈ ([56, 57, 58, 59, 60, 64, 65, 67, 106] : List Nat) ∧ i = f ∧ j = p) → G c i j = g c i j) (hM : ∀ c i j, ¬ (c ∈ ([61, 63, 65, 67] : List Nat) ∧ i = f ∧ j = p) → M c i j = m c i j)
    (r106 : G 106 f p ≠ 0) (r56 : G 56 f p = M 63 f p) (r1 : 1 ≤ (G 56 f p).toInt) (r57 : G 57 f p = g 51 f 0) (r61 : M 61 f p = g 51 f 0) (r59 : G 59 f p = M 67 f p) (r58 : G 58 f p = M 65 f p) (r64 : G 64 f p = pMix (g 62 f 0) (nI p)) (r65 : G 65 f p = g 61 f 0) (r67 : G 67 f p = nI p) (r60 : G 60 f p = g 11 0 0)
    (hq : g 106 f p = 0 → (V_X11_partsOf g (g 50 f 0).toNatClampNeg).toInt < (g 41 (g 50 f 0).toNatClampNeg 0).toInt) (hb : (M 63 f p).toInt ≤ 10 * ((n : Int) + 1)) : vInv (n + 1) G M := by
  obtain ⟨hE, hrU, hrUz, hrD, hrG, hrGz, hrK, hrF, hrFz, hrP, hrV, hrLg, hrW, hrC, hrS, hrQ, hrT, hrX, hrH, hrJ, hrN⟩ := h
  have Gg : ∀ c, c ∉ ([56, 57, 58, 59, 60, 64, 65, 67, 106] : List Nat) → ∀ i j, G c i j = g c i j := fun c hc i j => hG c i j (fun z => hc z.1)
  have Mm : ∀ c, c ∉ ([61, 63, 65, 67] : List Nat) → ∀ i j, M c i j = m c i j := fun c hc i j => hM c i j (fun z => hc z.1)
  have Gi : ∀ c i j, ¬ (i = f ∧ j = p) → G c i j = g c i j := fun c i j hc => hG c i j (fun z => hc z.2)
  have Mi : ∀ c i j, ¬ (i = f ∧ j = p) → M c i j = m c i j := fun c i j hc => hM c i j (fun z => hc z.2)
  have F := hrF.2.2.2.1 f hf
  have F5 := hrF.2.2.2.2 f
  have tg := tnI F5.1
  have g5 := hrG.2.1
  have E' : rE G M := rE_k (fun q hq i j => Gg _ ((by decide : ∀ q ∈ vPairs, q.1 ∉ ([56, 57, 58, 59, 60, 64, 65, 67, 106] : List Nat)) q hq) i j) (fun q hq i j => Mm _ ((by decide : ∀ q ∈ vPairs, q.2 ∉ ([61, 63, 65, 67] : List Nat)) q hq) i j) hE
  have HFz : rFz G := by
    intro i k hi
    rw [Gg 2 (by decide)] at hi
    have e : i ≠ f := by omega
    rw [Gg 50 (by decide), Gg 51 (by decide), Gg 52 (by decide), Gg 53 (by decide), Gi 106 i k (fun z => e z.1)]
    exact hrFz i k hi
  have HP : rP G M := by
    intro i j
    by_cases c : i = f ∧ j = p
    · obtain ⟨rfl, rfl⟩ := c
      refine Or.inr ⟨hp, r106, r56, r1, by rw [r57, r61], r59, r58, ?_, ?_, r67, ?_, ?_, ?_⟩
      · rw [r64, F.2.2.1, r61]
      · rw [r65, r61, Mm 59 (by decide)]; exact F.2.2.2.2.1
      · rw [r65, Gg 42 (by decide), Gg 50 (by decide)]; exact F.2.2.2.2.2
      · rw [r60]; exact hrH.1
      · rw [r60, Gg 11 (by decide)]; exact Int.le_refl _
    · rw [Gi 106 i j c, Mi 63 i j c, Gi 56 i j c, Gi 57 i j c, Mi 61 i j c, Gi 59 i j c, Mi 67 i j c, Gi 58 i j c, Mi 65 i j c, Gi 64 i j c, Gi 65 i j c, Mm 59 (by decide), Gi 67 i j c, Gg 50 (by decide), Gg 42 (by decide), Gi 60 i j c, Gg 11 (by decide)]
      exact hrP i j
  have HV : rV G M := by
    intro i j
    rw [Gg 51 (by decide)]
    by_cases c : i = f ∧ j = p
    · rw [c.1, c.2, r61]; exact ⟨F5.2.2.1, Int.le_refl _⟩
    · rw [Mi 61 i j c]; exact hrV i j
  have HF : rF G M := (rF_k (fun c hc i j => Gg c ((by decide : ∀ c ∈ ([1, 2, 42, 50, 51, 61, 62, 63, 66, 105] : List Nat), c ∉ ([56, 57, 58, 59, 60, 64, 65, 67, 106] : List Nat)) c hc) i j) (fun c hc i j => Mm c ((by decide : ∀ c ∈ ([13, 59] : List Nat), c ∉ ([61, 63, 65, 67] : List Nat)) c hc) i j) hrF)
  have HG : rG G := (rG_k (fun c hc i j => Gg c ((by decide : ∀ c ∈ ([0, 1, 40, 41, 43, 44, 46, 48, 104] : List Nat), c ∉ ([56, 57, 58, 59, 60, 64, 65, 67, 106] : List Nat)) c hc) i j) hrG)
  have HQ : rQ G := by
    rw [rQ_n HG HF]
    have q0 := (rQ_n hrG hrF).mp hrQ
    intro i hi
    rw [Gg 1 (by decide)] at hi
    rw [Gg 2 (by decide), Gg 41 (by decide)]
    have tW := tnI hrF.1
    by_cases d : g 106 f p = 0
    · rw [poC_add hp (fun f => Gg 50 (by decide) f 0) d r106 (fun i j c => Gi 106 i j c)]
      have a := hq d
      rw [poC_e hrG hrF (by omega)] at a
      have b := poC_le (g := g) (a := (g 50 f 0).toNatClampNeg) (g 2 0 0).toNatClampNeg
      have c2 := hrF.2.1
      rw [nI_toInt (by omega)] at a
      have q1 := q0 i hi
      split
      · next z => rw [z.2] at a; omega
      · omega
    · have e : ∀ i j, g 106 i j = 0 → G 106 i j = 0 := fun i j z => by
        by_cases c : i = f ∧ j = p
        · rw [c.1, c.2] at z; exact absurd z d
        · rw [Gi 106 i j c]; exact z
      have a := poC_le2 (g := g) (G := G) (a := i) (fun f => Gg 50 (by decide) f 0) e (g 2 0 0).toNatClampNeg
      have q1 := q0 i hi
      omega
  have HH : rH G M := by
    obtain ⟨q1, q2, q3, q4⟩ := hrH
    have a1 := Gg 1 (by decide); have a2 := Gg 2 (by decide); have a11 := Gg 11 (by decide); have a42 := Gg 42 (by decide); have a44 := Gg 44 (by decide); have a50 := Gg 50 (by decide); have b54 := Mm 54 (by decide)
    have e0 : ∀ p k, rpS G p k = rpS g p k := fun p k => rpS_k (Gg 85 (by decide)) (Gg 86 (by decide)) k
    unfold rH
    simp only [a1, a2, a11, a42, a44, a50, b54, e0]
    refine ⟨q1, q2, q3, fun i j u hi hj hu => ?_⟩
    by_cases c : i = f ∧ j = p
    · obtain ⟨rfl, rfl⟩ := c
      rw [r60, r65, h61]
      have r2 := q2 (g 50 i 0).toNatClampNeg u (by omega) hu
      have k3 := hrK.2.2.1 (g 50 i 0).toNatClampNeg u (by omega) hu
      by_cases d : g 44 (g 50 i 0).toNatClampNeg u = 0
      · rw [if_pos d]
        have := r2.2 d
        omega
      · rw [if_neg d, r2.1 d, show (2147483647 : Int32).toInt = 2147483647 from by decide]
        omega
    · rw [Gi 106 i j c] at hj
      rw [Gi 60 i j c, Gi 65 i j c]
      exact q4 i j u hi hj hu
  have HN : rN (n + 1) G M := by
    obtain ⟨n1, n2, n3, n4, n5, n6, Z, n7, n8, n9, na, nb⟩ := hrN
    have a0 := Gg 0 (by decide); have a1 := Gg 1 (by decide); have a8 := Gg 8 (by decide); have a9 := Gg 9 (by decide); have a11 := Gg 11 (by decide); have a42 := Gg 42 (by decide); have a43 := Gg 43 (by decide); have a51 := Gg 51 (by decide); have b6 := Mm 6 (by decide)
    unfold rN
    simp only [a0, a1, a8, a9, a11, a42, a43, a51, b6]
    refine ⟨fun i => by have := n1 i; omega, fun i j => ?_, n3, n4, n5, by omega, Z, n7, n8, n9, na, nb⟩
    by_cases c : i = f ∧ j = p
    · rw [c.1, c.2]; omega
    · rw [Mi 63 i j c]; have := n2 i j; omega
  exact ⟨E', (rU_k (fun c hc i j => Gg c ((by decide : ∀ c ∈ ([0, 22, 25, 26, 28, 103] : List Nat), c ∉ ([56, 57, 58, 59, 60, 64, 65, 67, 106] : List Nat)) c hc) i j)  hrU), (rUz_k (fun c hc i j => Gg c ((by decide : ∀ c ∈ ([0, 20, 21, 22, 23, 24, 25, 26, 27, 30, 31, 32] : List Nat), c ∉ ([56, 57, 58, 59, 60, 64, 65, 67, 106] : List Nat)) c hc) i j)  hrUz), (rD_k (fun c hc i j => Gg c ((by decide : ∀ c ∈ ([2, 27, 30] : List Nat), c ∉ ([56, 57, 58, 59, 60, 64, 65, 67, 106] : List Nat)) c hc) i j)  hrD), HG, (rGz_k (fun c hc i j => Gg c ((by decide : ∀ c ∈ ([1, 40, 41, 42, 43, 44] : List Nat), c ∉ ([56, 57, 58, 59, 60, 64, 65, 67, 106] : List Nat)) c hc) i j)  hrGz), (rK_k (fun c hc i j => Gg c ((by decide : ∀ c ∈ ([1, 42, 47] : List Nat), c ∉ ([56, 57, 58, 59, 60, 64, 65, 67, 106] : List Nat)) c hc) i j) (fun c hc i j => Mm c ((by decide : ∀ c ∈ ([54] : List Nat), c ∉ ([61, 63, 65, 67] : List Nat)) c hc) i j) hrK), HF, HFz, HP, HV, (rLg_k (fun c hc i j => Gg c ((by decide : ∀ c ∈ ([4] : List Nat), c ∉ ([56, 57, 58, 59, 60, 64, 65, 67, 106] : List Nat)) c hc) i j)  hrLg), (rW_k (fun c hc i j => Gg c ((by decide : ∀ c ∈ ([3, 71, 72] : List Nat), c ∉ ([56, 57, 58, 59, 60, 64, 65, 67, 106] : List Nat)) c hc) i j)  hrW), (rC_k (fun c hc i j => Gg c ((by decide : ∀ c ∈ ([5] : List Nat), c ∉ ([56, 57, 58, 59, 60, 64, 65, 67, 106] : List Nat)) c hc) i j)  hrC), (rS_k (fun c hc i j => Gg c ((by decide : ∀ c ∈ ([17, 82, 83] : List Nat), c ∉ ([56, 57, 58, 59, 60, 64, 65, 67, 106] : List Nat)) c hc) i j) (fun c hc i j => Mm c ((by decide : ∀ c ∈ ([74] : List Nat), c ∉ ([61, 63, 65, 67] : List Nat)) c hc) i j) hrS), HQ, (rT_k (fun c hc i j => Gg c ((by decide : ∀ c ∈ ([12, 13, 14, 75] : List Nat), c ∉ ([56, 57, 58, 59, 60, 64, 65, 67, 106] : List Nat)) c hc) i j) (fun c hc i j => Mm c ((by decide : ∀ c ∈ ([6, 14, 71] : List Nat), c ∉ ([61, 63, 65, 67] : List Nat)) c hc) i j) hrT), (rX_k (fun c hc i j => Gg c ((by decide : ∀ c ∈ ([16, 72, 73] : List Nat), c ∉ ([56, 57, 58, 59, 60, 64, 65, 67, 106] : List Nat)) c hc) i j)  hrX), HH, (rJ_k (fun c hc i j => Gg c ((by decide : ∀ c ∈ ([20] : List Nat), c ∉ ([56, 57, 58, 59, 60, 64, 65, 67, 106] : List Nat)) c hc) i j)  hrJ), HN⟩
theorem turnsE {n : Nat} {g m : vS} (h : vInv n g m) (hn : n ≤ 100000) {x : Int32} (x0 : 0 ≤ x.toInt) (x1 : x.toInt < (g 2 0 0).toInt) :
    (∀ c, c ∉ ([56, 59, 13] : List Nat) → ∀ i j, S_X12_turns m x c i j = m c i j) ∧ (∀ c i j, i ≠ x.toNatClampNeg → S_X12_turns m x c i j = m c i j) ∧ (∀ j, S_X12_turns m x 56 x.toNatClampNeg j = if j = 0 then g 51 x.toNatClampNeg 0 + 1 else m 56 x.toNatClampNeg j) ∧
    (∀ j : Nat, (j : Int) ≤ (g 51 x.toNatClampNeg 0).toInt → S_X12_turns m x 59 x.toNatClampNeg j = m 59 x.toNatClampNeg j) ∧ (S_X12_turns m x 59 x.toNatClampNeg (g 51 x.toNatClampNeg 0 + 1).toNatClampNeg = g 42 (g 50 x.toNatClampNeg 0).toNatClampNeg 0) ∧
    ((g 51 x.toNatClampNeg 0).toInt + 1 < ((S_X12_turns m x 13 x.toNatClampNeg 0).toNatClampNeg : Int)) ∧ ((S_X12_turns m x 13 x.toNatClampNeg 0).toInt ≤ 2 * ((g 51 x.toNatClampNeg 0).toInt + 1) + 8) ∧ (0 ≤ (S_X12_turns m x 13 x.toNatClampNeg 0).toInt) ∧ ((m 13 x.toNatClampNeg 0).toNatClampNeg ≤ (S_X12_turns m x 13 x.toNatClampNeg 0).toNatClampNeg) := by
  have e56 := vE_ h (a := 51) (b := 56) (by decide)
  have e55 := vE_ h (a := 50) (b := 55) (by decide)
  have e50 := vE_ h (a := 42) (b := 50) (by decide)
  obtain ⟨-, -, -, -, -, -, -, ⟨-, -, -, -, f5⟩, -, -, -, -, -, -, -, -, -, -, -, -, hN⟩ := h
  have n1 := hN.1 x.toNatClampNeg
  obtain ⟨-, -, v0, v1, v2, v3⟩ := f5 x.toNatClampNeg
  have tL := tnI v3
  have eL := q_nI v3
  have tV := tnI v0
  have e1 : (g 51 x.toNatClampNeg 0 + 1).toInt = (g 51 x.toNatClampNeg 0).toInt + 1 := q_add1 (by omega)
  have t1 := tnI (x := g 51 x.toNatClampNeg 0 + 1) (by omega)
  have q1 := q_nI (x := g 51 x.toNatClampNeg 0 + 1) (by omega)
  generalize hf : x.toNatClampNeg = f at *
  generalize hV : g 51 f 0 + 1 = V1 at *
  generalize hL : (m 13 f 0).toNatClampNeg = L at *
  have r13 : s3 m 56 f 0 V1 13 f 0 = m 13 f 0 := s3_k (by decide)
  have r59 : ∀ i j, s3 m 56 f 0 V1 59 i j = m 59 i j := fun i j => s3_k (by decide)
  unfold S_X12_turns
  rw [hf, e56, hV, r13, hL, e55, e50]
  generalize g 42 (g 50 f 0).toNatClampNeg 0 = E at *
  by_cases c : V1 = nI L
  · rw [if_pos c]
    have g13 : gB (s3 m 56 f 0 V1) f 13 f 0 = nI (2 * L) := by
      unfold gB
      rw [if_neg (fun z => absurd z.1 (by decide)), s3_s, r13, hL]
    have c2 := congrArg Int32.toInt c
    rw [nI_toInt (by omega)] at c2
    have k2 : (nI (2 * L)).toInt = ((2 * L : Nat) : Int) := nI_toInt (by omega)
    have g59 : ∀ j, gB (s3 m 56 f 0 V1) f 59 f j = if j < L then m 59 f j else 0 := fun j => by
      unfold gB gcp
      rw [if_pos ⟨rfl, rfl⟩, r13, hL]
      simp only [r59]
    have gk : ∀ c i j, ¬ (i = f ∧ (c = 59 ∨ (c = 13 ∧ j = 0))) → gB (s3 m 56 f 0 V1) f c i j = s3 m 56 f 0 V1 c i j := fun c i j hc => by
      unfold gB
      rw [if_neg (fun z => hc ⟨z.2, Or.inl z.1⟩)]
      exact if_neg (fun z => hc ⟨z.2.1, Or.inr ⟨z.1, z.2.2⟩⟩)
    refine ⟨fun c' hc i j => ?_, fun c' i j hi => ?_, fun j => ?_, fun j hj => ?_, s3_s, ?_, ?_, ?_, ?_⟩
    · have q : ∀ k ∈ ([56, 59, 13] : List Nat), c' ≠ k := fun k hk e => hc (e ▸ hk)
      rw [s3_k (q 59 (by decide)), gk _ _ _ (fun z => z.2.elim (q 59 (by decide)) (fun y => q 13 (by decide) y.1)), s3_k (q 56 (by decide))]
    · rw [s3_i hi, gk _ _ _ (fun z => hi z.1), s3_i hi]
    · rw [s3_k (by decide), gk _ _ _ (fun z => z.2.elim (fun y => absurd y (by decide)) (fun y => absurd y.1 (by decide)))]
      by_cases d : j = 0
      · rw [d, s3_s, if_pos rfl]
      · rw [s3_j d, if_neg d]
    · rw [s3_j (by omega), g59, if_pos (by omega)]
    · rw [s3_k (by decide), g13, nI_clamp (by omega)]; omega
    · rw [s3_k (by decide), g13, k2]; omega
    · rw [s3_k (by decide), g13, k2]; omega
    · rw [s3_k (by decide), g13, nI_clamp (by omega)]; omega
  · rw [if_neg c]
    have c2 : V1.toInt ≠ (L : Int) := fun z => c (Int32.toInt_inj.mp (by rw [nI_toInt (by omega)]; exact z))
    refine ⟨fun c' hc i j => ?_, fun c' i j hi => ?_, fun j => ?_, fun j hj => ?_, s3_s, ?_, ?_, ?_, ?_⟩
    · have q : ∀ k ∈ ([56, 59, 13] : List Nat), c' ≠ k := fun k hk e => hc (e ▸ hk)
      rw [s3_k (q 59 (by decide)), s3_k (q 56 (by decide))]
    · rw [s3_i hi, s3_i hi]
    · rw [s3_k (by decide)]
      by_cases d : j = 0
      · rw [d, s3_s, if_pos rfl]
      · rw [s3_j d, if_neg d]
    · rw [s3_j (by omega), r59]
    · rw [s3_k (by decide), r13, hL]; omega
    · rw [s3_k (by decide), r13]; omega
    · rw [s3_k (by decide), r13]; exact v3
    · rw [s3_k (by decide), r13, hL]; exact Nat.le_refl _
theorem st_turn {n : Nat} {g m : vS} (h : vInv n g m) (hn : n ≤ 100000) {x : Int32} (x0 : 0 ≤ x.toInt) (x1 : x.toInt < (g 2 0 0).toInt) : vInv (n + 1) (S_X4_turnKey g x.toNatClampNeg) (S_X12_turns m x) := by
  obtain ⟨t1, t2, t3, t4, t5, t6, t7, t8, t9⟩ := turnsE h hn x0 x1
  have ax := tnI x0
  obtain ⟨hE, hrU, hrUz, hrD, hrG, hrGz, hrK, hrF, hrFz, hrP, hrV, hrLg, hrW, hrC, hrS, hrQ, hrT, hrX, hrH, hrJ, hrN⟩ := h
  generalize x.toNatClampNeg = f at *
  generalize S_X12_turns m x = M at *
  have hf : (f : Int) < (g 2 0 0).toInt := by omega
  have F := hrF.2.2.2.1 f hf
  have F5 := hrF.2.2.2.2 f
  have n1 := hrN.1 f
  have e1 : (g 51 f 0 + 1).toInt = (g 51 f 0).toInt + 1 := q_add1 (by omega)
  have Mm : ∀ c, c ∉ ([56, 59, 13] : List Nat) → ∀ i j, M c i j = m c i j := t1
  have Gg : ∀ c, c ∉ ([51, 61, 62] : List Nat) → ∀ i j, S_X4_turnKey g f c i j = g c i j := fun c hc i j => by
    have q : ∀ k ∈ ([51, 61, 62] : List Nat), c ≠ k := fun k hk e => hc (e ▸ hk)
    unfold S_X4_turnKey
    rw [s3_k (q 62 (by decide)), s3_k (q 61 (by decide)), s3_k (q 51 (by decide))]
  have Gi : ∀ c i j, ¬ (i = f ∧ j = 0) → S_X4_turnKey g f c i j = g c i j := fun c i j hc => by
    have q : ∀ (Q : vS) k v, s3 Q k f 0 v c i j = Q c i j := fun Q k v => if_neg (fun z => hc z.2)
    unfold S_X4_turnKey
    rw [q, q, q]
  have G51 : S_X4_turnKey g f 51 f 0 = g 51 f 0 + 1 := (s3_k (by decide)).trans ((s3_k (by decide)).trans s3_s)
  have G61 : S_X4_turnKey g f 61 f 0 = g 42 (g 50 f 0).toNatClampNeg 0 := (s3_k (by decide)).trans s3_s
  have G62 : S_X4_turnKey g f 62 f 0 = pMix (pMix 4 (g 66 f 0)) (g 51 f 0 + 1) := s3_s
  have E' : rE (S_X4_turnKey g f) M := by
    intro q hq i j
    by_cases c : q = (51, 56)
    · subst c
      show S_X4_turnKey g f 51 i j = M 56 i j
      have e := hE (51, 56) (by decide) i j
      by_cases d : i = f
      · subst d
        rw [t3]
        by_cases d2 : j = 0
        · rw [if_pos d2, d2, G51]
        · rw [if_neg d2, Gi _ _ _ (fun z => d2 z.2)]; exact e
      · rw [t2 _ _ _ d, Gi _ _ _ (fun z => d z.1)]; exact e
    · have k1 : ∀ q ∈ vPairs, q ≠ (51, 56) → q.1 ∉ ([51, 61, 62] : List Nat) ∧ q.2 ∉ ([56, 59, 13] : List Nat) := by decide
      have k2 := k1 q hq c
      rw [Gg _ k2.1, Mm _ k2.2]; exact hE q hq i j
  have HF : rF (S_X4_turnKey g f) M := by
    obtain ⟨f1, f2, f3, f4, f5⟩ := hrF
    refine ⟨by rw [Gg 2 (by decide)]; exact f1, by rw [Gg 2 (by decide)]; exact f2, fun i => by rw [Gg 105 (by decide), Gg 2 (by decide)]; exact f3 i, fun i hi => ?_, fun i => ?_⟩
    · rw [Gg 2 (by decide)] at hi
      have q := f4 i hi
      rw [Gg 66 (by decide), Gg 63 (by decide), Gg 50 (by decide), Gg 1 (by decide), Gg 42 (by decide)]
      by_cases d : i = f
      · subst d
        rw [G62, G51, G61, q.1, t5]
        exact ⟨rfl, q.2.1, rfl, q.2.2.2.1, rfl, Int.le_refl _⟩
      · rw [Gi 62 _ _ (fun z => d z.1), Gi 51 _ _ (fun z => d z.1), Gi 61 _ _ (fun z => d z.1), t2 _ _ _ d]
        exact q
    · have q := f5 i
      rw [Gg 50 (by decide)]
      by_cases d : i = f
      · subst d
        rw [G51, e1]
        exact ⟨q.1, q.2.1, by omega, t6, t7, t8⟩
      · rw [Gi 51 _ _ (fun z => d z.1), t2 _ _ _ d]; exact q
  have HFz : rFz (S_X4_turnKey g f) := by
    intro i k hi
    rw [Gg 2 (by decide)] at hi
    have d : i ≠ f := by omega
    rw [Gg 50 (by decide), Gi 51 _ _ (fun z => d z.1), Gg 52 (by decide), Gg 53 (by decide), Gg 106 (by decide)]
    exact hrFz i k hi
  have HP : rP (S_X4_turnKey g f) M := by
    intro i p
    have e59 : M 59 i (m 61 i p).toNatClampNeg = m 59 i (m 61 i p).toNatClampNeg := by
      by_cases d : i = f
      · subst d
        refine t4 _ ?_
        have v := hrV i p
        have := tnI v.1
        omega
      · exact t2 _ _ _ d
    rw [Gg 106 (by decide), Mm 63 (by decide), Gg 56 (by decide), Gg 57 (by decide), Mm 61 (by decide), Gg 59 (by decide), Mm 67 (by decide), Gg 58 (by decide), Mm 65 (by decide), Gg 64 (by decide), Gg 65 (by decide), e59, Gg 67 (by decide), Gg 50 (by decide), Gg 42 (by decide), Gg 60 (by decide), Gg 11 (by decide)]
    exact hrP i p
  have HV : rV (S_X4_turnKey g f) M := by
    intro i p
    rw [Mm 61 (by decide)]
    have q := hrV i p
    by_cases d : i = f
    · subst d; rw [G51, e1]; omega
    · rw [Gi 51 _ _ (fun z => d z.1)]; exact q
  have HN : rN (n + 1) (S_X4_turnKey g f) M := by
    obtain ⟨m1, n2, n3, n4, n5, n6, Z, n7, n8, n9, na, nb⟩ := hrN
    have a0 := Gg 0 (by decide); have a1 := Gg 1 (by decide); have a8 := Gg 8 (by decide); have a9 := Gg 9 (by decide); have a11 := Gg 11 (by decide); have a42 := Gg 42 (by decide); have a43 := Gg 43 (by decide); have b6 := Mm 6 (by decide); have b63 := Mm 63 (by decide)
    unfold rN
    simp only [a0, a1, a8, a9, a11, a42, a43, b6, b63]
    refine ⟨fun i => ?_, fun i j => by have := n2 i j; omega, n3, n4, n5, by omega, Z, n7, n8, n9, na, nb⟩
    by_cases d : i = f
    · subst d; rw [G51, e1]; omega
    · rw [Gi 51 _ _ (fun z => d z.1)]; have := m1 i; omega
  exact ⟨E', (rU_k (fun c hc i j => Gg c ((by decide : ∀ c ∈ ([0, 22, 25, 26, 28, 103] : List Nat), c ∉ ([51, 61, 62] : List Nat)) c hc) i j)  hrU), (rUz_k (fun c hc i j => Gg c ((by decide : ∀ c ∈ ([0, 20, 21, 22, 23, 24, 25, 26, 27, 30, 31, 32] : List Nat), c ∉ ([51, 61, 62] : List Nat)) c hc) i j)  hrUz), (rD_k (fun c hc i j => Gg c ((by decide : ∀ c ∈ ([2, 27, 30] : List Nat), c ∉ ([51, 61, 62] : List Nat)) c hc) i j)  hrD), (rG_k (fun c hc i j => Gg c ((by decide : ∀ c ∈ ([0, 1, 40, 41, 43, 44, 46, 48, 104] : List Nat), c ∉ ([51, 61, 62] : List Nat)) c hc) i j)  hrG), (rGz_k (fun c hc i j => Gg c ((by decide : ∀ c ∈ ([1, 40, 41, 42, 43, 44] : List Nat), c ∉ ([51, 61, 62] : List Nat)) c hc) i j)  hrGz), (rK_k (fun c hc i j => Gg c ((by decide : ∀ c ∈ ([1, 42, 47] : List Nat), c ∉ ([51, 61, 62] : List Nat)) c hc) i j) (fun c hc i j => Mm c ((by decide : ∀ c ∈ ([54] : List Nat), c ∉ ([56, 59, 13] : List Nat)) c hc) i j) hrK), HF, HFz, HP, HV, (rLg_k (fun c hc i j => Gg c ((by decide : ∀ c ∈ ([4] : List Nat), c ∉ ([51, 61, 62] : List Nat)) c hc) i j)  hrLg), (rW_k (fun c hc i j => Gg c ((by decide : ∀ c ∈ ([3, 71, 72] : List Nat), c ∉ ([51, 61, 62] : List Nat)) c hc) i j)  hrW), (rC_k (fun c hc i j => Gg c ((by decide : ∀ c ∈ ([5] : List Nat), c ∉ ([51, 61, 62] : List Nat)) c hc) i j)  hrC), (rS_k (fun c hc i j => Gg c ((by decide : ∀ c ∈ ([17, 82, 83] : List Nat), c ∉ ([51, 61, 62] : List Nat)) c hc) i j) (fun c hc i j => Mm c ((by decide : ∀ c ∈ ([74] : List Nat), c ∉ ([56, 59, 13] : List Nat)) c hc) i j) hrS), (rQ_k (fun c hc i j => Gg c ((by decide : ∀ c ∈ ([1, 2, 41, 48, 50, 105, 106] : List Nat), c ∉ ([51, 61, 62] : List Nat)) c hc) i j)  hrQ), (rT_k (fun c hc i j => Gg c ((by decide : ∀ c ∈ ([12, 13, 14, 75] : List Nat), c ∉ ([51, 61, 62] : List Nat)) c hc) i j) (fun c hc i j => Mm c ((by decide : ∀ c ∈ ([6, 14, 71] : List Nat), c ∉ ([56, 59, 13] : List Nat)) c hc) i j) hrT), (rX_k (fun c hc i j => Gg c ((by decide : ∀ c ∈ ([16, 72, 73] : List Nat), c ∉ ([51, 61, 62] : List Nat)) c hc) i j)  hrX), (rH_k (fun c hc i j => Gg c ((by decide : ∀ c ∈ ([1, 2, 11, 42, 44, 50, 60, 65, 85, 86, 106] : List Nat), c ∉ ([51, 61, 62] : List Nat)) c hc) i j) (fun c hc i j => Mm c ((by decide : ∀ c ∈ ([54] : List Nat), c ∉ ([56, 59, 13] : List Nat)) c hc) i j) hrH), (rJ_k (fun c hc i j => Gg c ((by decide : ∀ c ∈ ([20] : List Nat), c ∉ ([51, 61, 62] : List Nat)) c hc) i j)  hrJ), HN⟩
theorem rFz_52 {g : vS} {a : Nat} {v : Int32} (h : rFz g) (c : (a : Int) < (g 2 0 0).toInt) : rFz (s3 g 52 a 0 v) := by
  intro f k hf
  rw [s3_k (by decide)] at hf
  have e : f ≠ a := by omega
  rw [s3_i e, s3_i e, s3_i e, s3_i e, s3_i e]
  exact h f k hf
theorem st_mark {n : Nat} {g m : vS} (h : vInv n g m) {x : Int32} (x0 : 0 ≤ x.toInt) (x1 : x.toInt < (g 2 0 0).toInt) : vInv n (s3 g 52 x.toNatClampNeg 0 (V_X4_markOfParts g x.toNatClampNeg)) (s3 m 57 x.toNatClampNeg 0 (V_X12_markOf m x)) := by
  rw [markE h x0 x1]
  have ax := tnI x0
  generalize V_X4_markOfParts g x.toNatClampNeg = v
  obtain ⟨hE, hrU, hrUz, hrD, hrG, hrGz, hrK, hrF, hrFz, hrP, hrV, hrLg, hrW, hrC, hrS, hrQ, hrT, hrX, hrH, hrJ, hrN⟩ := h
  exact ⟨rE_s (by decide) (by decide) hE, rU_k (fun c hc i j => s3_k (nm hc (by decide)))  hrU, rUz_k (fun c hc i j => s3_k (nm hc (by decide)))  hrUz, rD_k (fun c hc i j => s3_k (nm hc (by decide)))  hrD, rG_k (fun c hc i j => s3_k (nm hc (by decide)))  hrG, rGz_k (fun c hc i j => s3_k (nm hc (by decide)))  hrGz, rK_k (fun c hc i j => s3_k (nm hc (by decide))) (fun c hc i j => s3_k (nm hc (by decide))) hrK, rF_k (fun c hc i j => s3_k (nm hc (by decide))) (fun c hc i j => s3_k (nm hc (by decide))) hrF, rFz_52 hrFz (by omega), rP_k (fun c hc i j => s3_k (nm hc (by decide))) (fun c hc i j => s3_k (nm hc (by decide))) hrP, rV_k (fun c hc i j => s3_k (nm hc (by decide))) (fun c hc i j => s3_k (nm hc (by decide))) hrV, rLg_k (fun c hc i j => s3_k (nm hc (by decide)))  hrLg, rW_k (fun c hc i j => s3_k (nm hc (by decide)))  hrW, rC_k (fun c hc i j => s3_k (nm hc (by decide)))  hrC, rS_k (fun c hc i j => s3_k (nm hc (by decide))) (fun c hc i j => s3_k (nm hc (by decide))) hrS, rQ_k (fun c hc i j => s3_k (nm hc (by decide)))  hrQ, rT_k (fun c hc i j => s3_k (nm hc (by decide))) (fun c hc i j => s3_k (nm hc (by decide))) hrT, rX_k (fun c hc i j => s3_k (nm hc (by decide)))  hrX, rH_k (fun c hc i j => s3_k (nm hc (by decide))) (fun c hc i j => s3_k (nm hc (by decide))) hrH, rJ_k (fun c hc i j => s3_k (nm hc (by decide)))  hrJ, rN_k (fun c hc i j => s3_k (nm hc (by decide))) (fun c hc i j => s3_k (nm hc (by decide))) hrN⟩
theorem st_log {n : Nat} {g m : vS} (h : vInv n g m) {L v : Int32} (e : g 4 0 0 = L) (l0 : 0 ≤ L.toInt) (l1 : L.toInt < 300) : vInv n (s3 (s3 g 80 L.toNatClampNeg 0 v) 4 0 0 (L + 1)) (s3 (s3 m 73 L.toNatClampNeg 0 v) 11 0 0 (L + 1)) := by
  subst e
  obtain ⟨hE, hrU, hrUz, hrD, hrG, hrGz, hrK, hrF, hrFz, hrP, hrV, hrLg, hrW, hrC, hrS, hrQ, hrT, hrX, hrH, hrJ, hrN⟩ := h
  exact ⟨rE_s (by decide) (by decide) (rE_s (by decide) (by decide) hE), rU_k (fun c hc i j => (s3_k (nm hc (by decide))).trans (s3_k (nm hc (by decide))))  hrU, rUz_k (fun c hc i j => (s3_k (nm hc (by decide))).trans (s3_k (nm hc (by decide))))  hrUz, rD_k (fun c hc i j => (s3_k (nm hc (by decide))).trans (s3_k (nm hc (by decide))))  hrD, rG_k (fun c hc i j => (s3_k (nm hc (by decide))).trans (s3_k (nm hc (by decide))))  hrG, rGz_k (fun c hc i j => (s3_k (nm hc (by decide))).trans (s3_k (nm hc (by decide))))  hrGz, rK_k (fun c hc i j => (s3_k (nm hc (by decide))).trans (s3_k (nm hc (by decide)))) (fun c hc i j => (s3_k (nm hc (by decide))).trans (s3_k (nm hc (by decide)))) hrK, rF_k (fun c hc i j => (s3_k (nm hc (by decide))).trans (s3_k (nm hc (by decide)))) (fun c hc i j => (s3_k (nm hc (by decide))).trans (s3_k (nm hc (by decide)))) hrF, rFz_k (fun c hc i j => (s3_k (nm hc (by decide))).trans (s3_k (nm hc (by decide))))  hrFz, rP_k (fun c hc i j => (s3_k (nm hc (by decide))).trans (s3_k (nm hc (by decide)))) (fun c hc i j => (s3_k (nm hc (by decide))).trans (s3_k (nm hc (by decide)))) hrP, rV_k (fun c hc i j => (s3_k (nm hc (by decide))).trans (s3_k (nm hc (by decide)))) (fun c hc i j => (s3_k (nm hc (by decide))).trans (s3_k (nm hc (by decide)))) hrV, rLg_1 l0 l1 s3_s, rW_k (fun c hc i j => (s3_k (nm hc (by decide))).trans (s3_k (nm hc (by decide))))  hrW, rC_k (fun c hc i j => (s3_k (nm hc (by decide))).trans (s3_k (nm hc (by decide))))  hrC, rS_k (fun c hc i j => (s3_k (nm hc (by decide))).trans (s3_k (nm hc (by decide)))) (fun c hc i j => (s3_k (nm hc (by decide))).trans (s3_k (nm hc (by decide)))) hrS, rQ_k (fun c hc i j => (s3_k (nm hc (by decide))).trans (s3_k (nm hc (by decide))))  hrQ, rT_k (fun c hc i j => (s3_k (nm hc (by decide))).trans (s3_k (nm hc (by decide)))) (fun c hc i j => (s3_k (nm hc (by decide))).trans (s3_k (nm hc (by decide)))) hrT, rX_k (fun c hc i j => (s3_k (nm hc (by decide))).trans (s3_k (nm hc (by decide))))  hrX, rH_k (fun c hc i j => (s3_k (nm hc (by decide))).trans (s3_k (nm hc (by decide)))) (fun c hc i j => (s3_k (nm hc (by decide))).trans (s3_k (nm hc (by decide)))) hrH, rJ_k (fun c hc i j => (s3_k (nm hc (by decide))).trans (s3_k (nm hc (by decide))))  hrJ, rN_k (fun c hc i j => (s3_k (nm hc (by decide))).trans (s3_k (nm hc (by decide)))) (fun c hc i j => (s3_k (nm hc (by decide))).trans (s3_k (nm hc (by decide)))) hrN⟩
theorem addsE {m : vS} {v L : Int32} (e : m 11 0 0 = L) : S_X12_adds m v = s3 (s3 m 73 L.toNatClampNeg 0 v) 11 0 0 (L + 1) := by
  unfold S_X12_adds; rw [e]
