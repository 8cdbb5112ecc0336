/-- a file's places from j on made 0 -/
def zr (k : Nat) (q : vS) (f j : Nat) : vS := fun c i p => if c = k ∧ i = f ∧ j ≤ p ∧ p < 8 then 0 else q c i p
theorem zr_8 {k : Nat} {q : vS} {f j : Nat} (h : 8 ≤ j) : zr k q f j = q := funext fun c => funext fun i => funext fun p => if_neg (by omega)
theorem zr_s {k : Nat} {q : vS} {f j : Nat} (h : j < 8) : zr k (s3 q k f j 0) f (j + 1) = zr k q f j := funext fun c => funext fun i => funext fun p => by
  unfold zr s3
  by_cases d : c = k ∧ i = f ∧ p = j
  · rw [if_neg (by omega), if_pos d, if_pos (by omega)]
  · rw [if_neg d]
    by_cases e : c = k ∧ i = f ∧ j ≤ p ∧ p < 8
    · rw [if_pos e, if_pos (by omega)]
    · rw [if_neg e, if_neg (by omega)]
theorem zr_k {k : Nat} {q : vS} {f j c i p : Nat} (h : c ≠ k) : zr k q f j c i p = q c i p := if_neg (fun z => h z.1)
theorem zr_i {k : Nat} {q : vS} {f j c i p : Nat} (h : i ≠ f) : zr k q f j c i p = q c i p := if_neg (fun z => h z.2.1)
theorem dropE2 {g : vS} {f : Nat} : S_X4_dropParts g f = zr 106 g f 0 ∧ V_X4_dropParts g f = V_X4_partCount g f := by
  have L : ∀ (k j : Nat) (q : vS), j + k = 9 → j ≤ 8 → SL_X4_dropParts_7 g f k j q = zr 106 q f j ∧ VL_X4_dropParts_7 g f k j q = V_X4_partCount g f := by
    intro k
    induction k with
    | zero => intro j q hh hj; exfalso; omega
    | succ k ih =>
      intro j q hh hj
      unfold SL_X4_dropParts_7 VL_X4_dropParts_7
      rw [show (8 : Int32) = nI 8 from rfl]
      by_cases c : 8 ≤ j
      · rw [if_pos (pLe (by omega) (by omega) c), if_pos (pLe (by omega) (by omega) c), zr_8 c]; exact ⟨rfl, rfl⟩
      · rw [if_neg (nLe (by omega) (by omega) c), if_neg (nLe (by omega) (by omega) c)]
        have r := ih (j + 1) (s3 q 106 f j 0) (by omega) (by omega)
        rw [zr_s (by omega)] at r
        exact r
  exact L 9 0 g (by omega) (by omega)
theorem purgeS {m q9 : vS} {f : Nat} {x9 : Int32} {K : Nat → Int32 → vS → vS} (h : m 68 f 0 ≠ 0) : ∀ (k j : Nat) (x : Int32) (q : vS), j + k = 9 → j ≤ 8 → SL_X12_purge_40 m f x9 q9 K k j x q = K (f + 1) x (zr 63 q f j) := by
  intro k
  induction k with
  | zero => intro j x q hh hj; exfalso; omega
  | succ k ih =>
    intro j x q hh hj
    unfold SL_X12_purge_40
    rw [if_neg h, show (8 : Int32) = nI 8 from rfl]
    by_cases c : 8 ≤ j
    · rw [if_pos (pLe (by omega) (by omega) c), zr_8 c]
    · rw [if_neg (nLe (by omega) (by omega) c), ih (j + 1) x _ (by omega) (by omega), zr_s (by omega)]
theorem purgeV {m q9 : vS} {f : Nat} {x9 : Int32} {K : Nat → Int32 → vS → Int32} (h : m 68 f 0 ≠ 0) : ∀ (k j : Nat) (x : Int32) (q : vS), j + k = 9 → j ≤ 8 → VL_X12_purge_40 m f x9 q9 K k j x q = K (f + 1) x (zr 63 q f j) := by
  intro k
  induction k with
  | zero => intro j x q hh hj; exfalso; omega
  | succ k ih =>
    intro j x q hh hj
    unfold VL_X12_purge_40
    rw [if_neg h, show (8 : Int32) = nI 8 from rfl]
    by_cases c : 8 ≤ j
    · rw [if_pos (pLe (by omega) (by omega) c), zr_8 c]
    · rw [if_neg (nLe (by omega) (by omega) c), ih (j + 1) x _ (by omega) (by omega), zr_s (by omega)]
theorem st_drop {n : Nat} {g m : vS} {f : Nat} (h : vInv n g m) : vInv n (zr 106 g f 0) (zr 63 m f 0) := by
  obtain ⟨hE, hrU, hrUz, hrD, hrG, hrGz, hrK, hrF, hrFz, hrP, hrV, hrLg, hrW, hrC, hrS, hrQ, hrT, hrX, hrH, hrJ, hrN⟩ := h
  have Gg : ∀ c, c ∉ ([106] : List Nat) → ∀ i j, zr 106 g f 0 c i j = g c i j := fun c hc i j => zr_k (fun e => hc (by rw [e]; decide))
  have Mm : ∀ c, c ∉ ([63] : List Nat) → ∀ i j, zr 63 m f 0 c i j = m c i j := fun c hc i j => zr_k (fun e => hc (by rw [e]; decide))
  -- a part is there no more, or as it was
  have G6 : ∀ i j, (zr 106 g f 0 106 i j = 0 ∧ zr 63 m f 0 63 i j = 0) ∨ (zr 106 g f 0 106 i j = g 106 i j ∧ zr 63 m f 0 63 i j = m 63 i j) := fun i j => by
    by_cases c : i = f ∧ j < 8
    · exact Or.inl ⟨if_pos ⟨rfl, c.1, Nat.zero_le _, c.2⟩, if_pos ⟨rfl, c.1, Nat.zero_le _, c.2⟩⟩
    · exact Or.inr ⟨if_neg (fun z => c ⟨z.2.1, z.2.2.2⟩), if_neg (fun z => c ⟨z.2.1, z.2.2.2⟩)⟩
  have E' : rE (zr 106 g f 0) (zr 63 m f 0) := rE_k (fun q hq i j => Gg _ ((by decide : ∀ q ∈ vPairs, q.1 ∉ ([106] : List Nat)) q hq) i j) (fun q hq i j => Mm _ ((by decide : ∀ q ∈ vPairs, q.2 ∉ ([63] : List Nat)) q hq) i j) hE
  have HFz : rFz (zr 106 g f 0) := by
    intro i k hi
    rw [Gg 2 (by decide)] at hi
    have q := hrFz i k hi
    rw [Gg 50 (by decide), Gg 51 (by decide), Gg 52 (by decide), Gg 53 (by decide)]
    refine ⟨q.1, q.2.1, q.2.2.1, q.2.2.2.1, ?_⟩
    rcases G6 i k with z | z
    · exact z.1
    · rw [z.1]; exact q.2.2.2.2
  have HP : rP (zr 106 g f 0) (zr 63 m f 0) := by
    intro i j
    rcases G6 i j with z | z
    · exact Or.inl z
    · rw [z.1, z.2, Gg 56 (by decide), Gg 57 (by decide), Mm 61 (by decide), Gg 59 (by decide), Mm 67 (by decide), Gg 58 (by decide), Mm 65 (by decide), Gg 64 (by decide), Gg 65 (by decide), Mm 59 (by decide), Gg 67 (by decide), Gg 50 (by decide), Gg 42 (by decide), Gg 60 (by decide), Gg 11 (by decide)]
      exact hrP i j
  have HF : rF (zr 106 g f 0) (zr 63 m f 0) := (rF_k (fun c hc i j => Gg c ((by decide : ∀ c ∈ ([1, 2, 42, 50, 51, 61, 62, 63, 66, 105] : List Nat), c ∉ ([106] : List Nat)) c hc) i j) (fun c hc i j => Mm c ((by decide : ∀ c ∈ ([13, 59] : List Nat), c ∉ ([63] : List Nat)) c hc) i j) hrF)
  have HG : rG (zr 106 g f 0) := (rG_k (fun c hc i j => Gg c ((by decide : ∀ c ∈ ([0, 1, 40, 41, 43, 44, 46, 48, 104] : List Nat), c ∉ ([106] : List Nat)) c hc) i j) hrG)
  have HQ : rQ (zr 106 g f 0) := by
    rw [rQ_n HG HF]
    have q0 := (rQ_n hrG hrF).mp hrQ
    intro i hi
    rw [Gg 1 (by decide)] at hi
    rw [Gg 2 (by decide), Gg 41 (by decide)]
    have a := poC_le2 (g := g) (G := zr 106 g f 0) (a := i) (fun f => Gg 50 (by decide) f 0) (fun i j z => by rcases G6 i j with w | w; exact w.1; rw [w.1]; exact z) (g 2 0 0).toNatClampNeg
    have q1 := q0 i hi
    omega
  have HH : rH (zr 106 g f 0) (zr 63 m f 0) := by
    obtain ⟨q1, q2, q3, q4⟩ := hrH
    have a1 := Gg 1 (by decide); have a2 := Gg 2 (by decide); have a11 := Gg 11 (by decide); have a42 := Gg 42 (by decide); have a44 := Gg 44 (by decide); have a50 := Gg 50 (by decide); have a60 := Gg 60 (by decide); have a65 := Gg 65 (by decide); have b54 := Mm 54 (by decide)
    have e0 : ∀ p k, rpS (zr 106 g f 0) p k = rpS g p k := fun p k => rpS_k (Gg 85 (by decide)) (Gg 86 (by decide)) k
    unfold rH
    simp only [a1, a2, a11, a42, a44, a50, a60, a65, b54, e0]
    refine ⟨q1, q2, q3, fun i j u hi hj hu => ?_⟩
    rcases G6 i j with z | z
    · exact absurd z.1 hj
    · rw [z.1] at hj; exact q4 i j u hi hj hu
  have HN : rN n (zr 106 g f 0) (zr 63 m f 0) := by
    obtain ⟨n1, n2, n3, n4, n5, n6, Z, n7, n8, n9, na, nb⟩ := hrN
    have a0 := Gg 0 (by decide); have a1 := Gg 1 (by decide); have a8 := Gg 8 (by decide); have a9 := Gg 9 (by decide); have a11 := Gg 11 (by decide); have a42 := Gg 42 (by decide); have a43 := Gg 43 (by decide); have a51 := Gg 51 (by decide); have b6 := Mm 6 (by decide)
    unfold rN
    simp only [a0, a1, a8, a9, a11, a42, a43, a51, b6]
    refine ⟨n1, fun i j => ?_, n3, n4, n5, n6, Z, n7, n8, n9, na, nb⟩
    rcases G6 i j with z | z
    · rw [z.2, i00]; omega
    · rw [z.2]; exact n2 i j
  exact ⟨E', (rU_k (fun c hc i j => Gg c ((by decide : ∀ c ∈ ([0, 22, 25, 26, 28, 103] : List Nat), c ∉ ([106] : List Nat)) c hc) i j)  hrU), (rUz_k (fun c hc i j => Gg c ((by decide : ∀ c ∈ ([0, 20, 21, 22, 23, 24, 25, 26, 27, 30, 31, 32] : List Nat), c ∉ ([106] : List Nat)) c hc) i j)  hrUz), (rD_k (fun c hc i j => Gg c ((by decide : ∀ c ∈ ([2, 27, 30] : List Nat), c ∉ ([106] : List Nat)) c hc) i j)  hrD), HG, (rGz_k (fun c hc i j => Gg c ((by decide : ∀ c ∈ ([1, 40, 41, 42, 43, 44] : List Nat), c ∉ ([106] : List Nat)) c hc) i j)  hrGz), (rK_k (fun c hc i j => Gg c ((by decide : ∀ c ∈ ([1, 42, 47] : List Nat), c ∉ ([106] : List Nat)) c hc) i j) (fun c hc i j => Mm c ((by decide : ∀ c ∈ ([54] : List Nat), c ∉ ([63] : List Nat)) c hc) i j) hrK), HF, HFz, HP, (rV_k (fun c hc i j => Gg c ((by decide : ∀ c ∈ ([51] : List Nat), c ∉ ([106] : List Nat)) c hc) i j) (fun c hc i j => Mm c ((by decide : ∀ c ∈ ([61] : List Nat), c ∉ ([63] : List Nat)) c hc) i j) hrV), (rLg_k (fun c hc i j => Gg c ((by decide : ∀ c ∈ ([4] : List Nat), c ∉ ([106] : List Nat)) c hc) i j)  hrLg), (rW_k (fun c hc i j => Gg c ((by decide : ∀ c ∈ ([3, 71, 72] : List Nat), c ∉ ([106] : List Nat)) c hc) i j)  hrW), (rC_k (fun c hc i j => Gg c ((by decide : ∀ c ∈ ([5] : List Nat), c ∉ ([106] : List Nat)) c hc) i j)  hrC), (rS_k (fun c hc i j => Gg c ((by decide : ∀ c ∈ ([17, 82, 83] : List Nat), c ∉ ([106] : List Nat)) c hc) i j) (fun c hc i j => Mm c ((by decide : ∀ c ∈ ([74] : List Nat), c ∉ ([63] : List Nat)) c hc) i j) hrS), HQ, (rT_k (fun c hc i j => Gg c ((by decide : ∀ c ∈ ([12, 13, 14, 75] : List Nat), c ∉ ([106] : List Nat)) c hc) i j) (fun c hc i j => Mm c ((by decide : ∀ c ∈ ([6, 14, 71] : List Nat), c ∉ ([63] : List Nat)) c hc) i j) hrT), (rX_k (fun c hc i j => Gg c ((by decide : ∀ c ∈ ([16, 72, 73] : List Nat), c ∉ ([106] : List Nat)) c hc) i j)  hrX), HH, (rJ_k (fun c hc i j => Gg c ((by decide : ∀ c ∈ ([20] : List Nat), c ∉ ([106] : List Nat)) c hc) i j)  hrJ), HN⟩
theorem purgeL {n : Nat} {g m : vS} (h : vInv n g m) : ∀ (k i : Nat) (x : Int32) (q q' : vS), i + k = 21 → i ≤ 20 → vInv n q q' → (∀ c, c ≠ 106 → ∀ i j, q c i j = g c i j) →
    VL_X11_purge_4 g k i x q = VL_X12_purge_9 m k i x q' ∧ vInv n (SL_X11_purge_4 g k i x q) (SL_X12_purge_9 m k i x q') ∧ (∀ c, c ≠ 106 → ∀ i' j, SL_X11_purge_4 g k i x q c i' j = q c i' j) ∧ (∀ c, c ≠ 63 → ∀ i' j, SL_X12_purge_9 m k i x q' c i' j = q' c i' j) := by
  have e4 := vE_ h (a := 2) (b := 4) (by decide) 0 0
  have e68 := vE_ h (a := 53) (b := 68) (by decide)
  have F : 0 ≤ (g 2 0 0).toInt ∧ (g 2 0 0).toInt ≤ 20 ∧ (∀ f : Nat, g 105 f 0 = 0 ↔ (g 2 0 0).toInt ≤ (f : Int)) := by
    obtain ⟨-, -, -, -, -, -, -, hF, -⟩ := h
    exact ⟨hF.1, hF.2.1, hF.2.2.1⟩
  intro k
  induction k with
  | zero => intro i x q q' hh hi; exfalso; omega
  | succ k ih =>
    intro i x q q' hh hi hI hg
    have ei : (nI i).toInt = (i : Int) := nI_toInt (by omega)
    unfold VL_X11_purge_4 SL_X11_purge_4 VL_X12_purge_9 SL_X12_purge_9
    rw [e4]
    by_cases d : g 2 0 0 ≤ nI i
    · rw [if_pos d, if_pos d, if_pos d, if_pos d]
      exact ⟨rfl, hI, fun _ _ _ _ => rfl, fun _ _ _ _ => rfl⟩
    · rw [if_neg d, if_neg d, if_neg d, if_neg d]
      rw [i32_le, ei] at d
      have d2 : ¬ 20 ≤ nI i := by rw [i32_le, ei, show (20 : Int32).toInt = 20 from by decide]; omega
      have d3 : ¬ g 105 i 0 = 0 := fun q => by have := (F.2.2 i).mp q; omega
      rw [if_neg d2, if_neg d2, if_neg d3, if_neg d3, e68]
      by_cases t : g 53 i 0 = 0
      · rw [if_pos t, if_pos t, if_pos t, if_pos t]
        have t2 : m 68 i 0 = 0 := by rw [e68]; exact t
        have pv : ∀ K : Nat → Int32 → vS → Int32, VL_X12_purge_40 m i x q' K (8 + 1) 0 (x + 0) q' = K (i + 1) x q' := fun K => by
          show (if m 68 i 0 = 0 then K (i + 1) (x + 0) q' else _) = _
          rw [if_pos t2, Int32.add_zero]
        have ps : ∀ K : Nat → Int32 → vS → vS, SL_X12_purge_40 m i x q' K (8 + 1) 0 (x + 0) q' = K (i + 1) x q' := fun K => by
          show (if m 68 i 0 = 0 then K (i + 1) (x + 0) q' else _) = _
          rw [if_pos t2, Int32.add_zero]
        rw [pv, ps]
        exact ih (i + 1) x q q' (by omega) (by omega) hI hg
      · rw [if_neg t, if_neg t, if_neg t, if_neg t]
        have t2 : m 68 i 0 ≠ 0 := by rw [e68]; exact t
        rw [purgeV t2 _ _ _ _ (by omega) (by omega), purgeS t2 _ _ _ _ (by omega) (by omega), dropE2.1, dropE2.2]
        have pc := pcE (g := q) (m := q') hI.2.2.2.2.2.2.2.2.2.1 (x := nI i)
        rw [nI_clamp (by omega)] at pc
        rw [pc]
        obtain ⟨r1, r2, r3, r4⟩ := ih (i + 1) (x + V_X12_partsOf q' (nI i)) (zr 106 q i 0) (zr 63 q' i 0) (by omega) (by omega) (st_drop hI) (fun c hc i' j => (zr_k hc).trans (hg c hc i' j))
        exact ⟨r1, r2, fun c hc i' j => (r3 c hc i' j).trans (zr_k hc), fun c hc i' j => (r4 c hc i' j).trans (zr_k hc)⟩
theorem pz_purge : PZ_purge vInv := by
  intro n g m h hn
  obtain ⟨r1, r2, r3, r4⟩ := purgeL h 21 0 0 g (s3 m 1 0 0 0) (by omega) (by omega) (by
    obtain ⟨a0, a1, a2, a3, a4, a5, a6, a7, a8, a9, a10, a11, a12, a13, a14, a15, a16, a17, a18, a19, -⟩ := vInv_w (k := 0) h
    obtain ⟨-, -, -, -, -, -, -, -, -, -, -, -, -, -, -, -, -, -, -, -, hN⟩ := h
    exact ⟨a0, a1, a2, a3, a4, a5, a6, a7, a8, a9, a10, a11, a12, a13, a14, a15, a16, a17, a18, a19, rN_k (fun _ _ _ _ => rfl) (fun c hc _ _ => s3_k (by intro e; subst e; revert hc; decide)) hN⟩) (fun _ _ _ _ => rfl)
  refine ⟨r1, vInv_n r2, p_ph (r3 14 (by decide) 0 0), p_pb (fun i j => (r4 13 (by decide) i j).trans (s3_k (by decide))), p_pw (fun i j => (r4 14 (by decide) i j).trans (s3_k (by decide)))⟩
