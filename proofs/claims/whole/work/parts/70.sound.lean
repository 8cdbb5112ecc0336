theorem rep26 {g : vS} {T : Nat} (hT : g 11 0 0 = nI T) (hT5 : T ≤ 517) : ∀ (k i : Nat) (q : vS), i + k = 518 → i ≤ T → (∀ p, p < 30 → q 87 p 0 = rpS g p i) → (∀ c, c ≠ 87 → ∀ i' j, SL_X2_replay_26 g k i q c i' j = q c i' j) ∧ (∀ p, p < 30 → SL_X2_replay_26 g k i q 87 p 0 = rpS g p T) := by
  intro k
  induction k with
  | zero => intro i q hh hi; exfalso; omega
  | succ k ih =>
    intro i q hh hi hq
    unfold SL_X2_replay_26
    rw [hT]
    by_cases c : T ≤ i
    · rw [if_pos (pLe (by omega) (by omega) c)]
      have : i = T := by omega
      subst this
      exact ⟨fun _ _ _ _ => rfl, hq⟩
    · have c2 : ¬ (517 : Int32) ≤ nI i := by rw [show (517 : Int32) = nI 517 from rfl, qnI_le (by omega) (by omega)]; omega
      rw [if_neg (nLe (by omega) (by omega) c), if_neg c2]
      have k30 : (30 : Int32).toInt = 30 := by decide
      by_cases d : g 85 i 0 < 0
      · rw [if_pos d]
        refine ih (i + 1) q (by omega) (by omega) (fun p hp => ?_)
        rw [hq p hp]
        refine (if_neg (fun e => ?_)).symm
        rw [e, i32_lt, i00, nI_toInt (by omega)] at d
        omega
      · rw [if_neg d]
        by_cases e : 30 ≤ g 85 i 0
        · rw [if_pos e]
          refine ih (i + 1) q (by omega) (by omega) (fun p hp => ?_)
          rw [hq p hp]
          refine (if_neg (fun e2 => ?_)).symm
          rw [e2, i32_le, k30, nI_toInt (by omega)] at e
          omega
        · rw [if_neg e]
          rw [i32_lt, i00] at d
          rw [i32_le, k30] at e
          have d0 : 0 ≤ (g 85 i 0).toInt := by omega
          have t := tnI d0
          have t2 := q_nI d0
          generalize hE : (g 85 i 0).toNatClampNeg = E at t t2
          have key : ∀ v : Int32, (v = if g 86 i 0 = 0 then nI (i + 1) else 2147483647) → ∀ p, p < 30 → s3 q 87 E 0 v 87 p 0 = rpS g p (i + 1) := fun v hv p hp => by
            unfold rpS
            by_cases c3 : p = E
            · subst c3
              rw [s3_s, if_pos t2.symm, hv]
            · rw [s3_i c3, hq p hp, if_neg (fun z => c3 (by rw [← t2, qnI_eq (by omega) (by omega)] at z; exact z.symm))]
          by_cases f : g 86 i 0 = 0
          · rw [if_pos f]
            have r := ih (i + 1) (s3 q 87 E 0 (nI (i + 1))) (by omega) (by omega) (key _ (by rw [if_pos f]))
            exact ⟨fun c' hc' i' j => (r.1 c' hc' i' j).trans (s3_k hc'), r.2⟩
          · rw [if_neg f]
            have r := ih (i + 1) (s3 q 87 E 0 2147483647) (by omega) (by omega) (key _ (by rw [if_neg f]))
            exact ⟨fun c' hc' i' j => (r.1 c' hc' i' j).trans (s3_k hc'), r.2⟩
theorem rep2 {g : vS} {T : Nat} (hT : g 11 0 0 = nI T) (hT5 : T ≤ 517) : ∀ (k i : Nat) (q : vS), i + k = 31 → i ≤ 30 → (∀ p, p < i → q 87 p 0 = 0) → (∀ c, c ≠ 87 → ∀ i' j, SL_X2_replay_2 g k i q c i' j = q c i' j) ∧ (∀ p, p < 30 → SL_X2_replay_2 g k i q 87 p 0 = rpS g p T) := by
  intro k
  induction k with
  | zero => intro i q hh hi; exfalso; omega
  | succ k ih =>
    intro i q hh hi hq
    unfold SL_X2_replay_2
    rw [show (30 : Int32) = nI 30 from rfl]
    by_cases c : 30 ≤ i
    · rw [if_pos (pLe (by omega) (by omega) c)]
      exact rep26 hT hT5 518 0 q (by omega) (by omega) (fun p hp => hq p (by omega))
    · rw [if_neg (nLe (by omega) (by omega) c)]
      have r := ih (i + 1) (s3 q 87 i 0 0) (by omega) (by omega) (fun p hp => by
        by_cases e : p = i
        · rw [e, s3_s]
        · rw [s3_i e]; exact hq p (by omega))
      exact ⟨fun c' hc' i' j => (r.1 c' hc' i' j).trans (s3_k hc'), r.2⟩
theorem repE {n : Nat} {g m : vS} (h : vInv n g m) (hn : n ≤ 512) : (∀ c, c ≠ 87 → ∀ i j, S_X2_replay g c i j = g c i j) ∧ (∀ p, p < 30 → S_X2_replay g 87 p 0 = rpS (S_X2_replay g) p (S_X2_replay g 11 0 0).toNatClampNeg) ∧ vInv n (S_X2_replay g) m := by
  have b := bE h hn
  have t := tnI b.1
  have r := rep2 (g := g) (T := (g 11 0 0).toNatClampNeg) (q_nI b.1).symm (by omega) 31 0 g (by omega) (by omega) (fun p hp => absurd hp (Nat.not_lt_zero _))
  have f : ∀ c, c ≠ 87 → ∀ i j, S_X2_replay g c i j = g c i j := r.1
  refine ⟨f, fun p hp => ?_, vInv_g (fun c hc i j => f c (fun e => hc (by rw [e]; decide)) i j) h⟩
  rw [f 11 (by decide), rpS_k (fun i j => f 85 (by decide) i j) (fun i j => f 86 (by decide) i j)]
  exact r.2 p hp
/-- a key that is known is one that is shared -/
theorem keySh {n : Nat} {R m : vS} (h : vInv n R m) (hR : ∀ p, p < 30 → R 87 p 0 = rpS R p (R 11 0 0).toNatClampNeg) {f p : Nat} {u : Int32} (hf : (f : Int) < (R 2 0 0).toInt) (hp : R 106 f p ≠ 0) (u0 : 0 ≤ u.toInt) (u6 : u.toNatClampNeg < 6) : V_X11_isKeyKnown R u f p = V_X2_isShared R (R 48 (R 50 f 0).toNatClampNeg 0) u (R 60 f p) := by
  have gr := grpE h hf
  have tg := tnI gr.1
  have tu := tnI u0
  have lat := latE h gr u0 u6
  have e52 := vE_ h (a := 44) (b := 52) (by decide)
  have e50 := vE_ h (a := 42) (b := 50) (by decide)
  have hG := h.2.2.2.2.1
  have g5 := hG.2.1
  have e48 := (hG.2.2.2.1 (R 50 f 0).toNatClampNeg (by omega)).1
  have r4 : (R 60 f p).toInt < (rpS R (6 * (R 50 f 0).toNatClampNeg + u.toNatClampNeg) (R 11 0 0).toNatClampNeg).toInt ↔ (R 65 f p).toInt ≤ (if R 44 (R 50 f 0).toNatClampNeg u.toNatClampNeg = 0 then m 54 (R 50 f 0).toNatClampNeg u.toNatClampNeg else R 42 (R 50 f 0).toNatClampNeg 0).toInt := by
    obtain ⟨-, -, -, -, -, -, -, -, -, -, -, -, -, -, -, -, -, -, hH, -⟩ := h
    exact hH.2.2.2 f p _ hf hp u6
  have ev : R 48 (R 50 f 0).toNatClampNeg 0 * 6 + u = nI (6 * (R 50 f 0).toNatClampNeg + u.toNatClampNeg) := by
    rw [e48, evN (by rw [nI_toInt (by omega)]; omega) u0, nI_clamp (by omega)]
  unfold V_X11_isKeyKnown V_X2_isShared
  rw [ev, if_neg (by rw [i32_lt, i00, nI_toInt (by omega)]; omega : ¬ nI (6 * (R 50 f 0).toNatClampNeg + u.toNatClampNeg) < 0), if_neg (by rw [i32_le, show (30 : Int32).toInt = 30 from by decide, nI_toInt (by omega)]; omega : ¬ 30 ≤ nI (6 * (R 50 f 0).toNatClampNeg + u.toNatClampNeg)), nI_clamp (by omega), hR _ (by omega), ← lat]
  unfold V_X12_latest
  rw [e52, e50]
  have sw : (if R 44 (R 50 f 0).toNatClampNeg u.toNatClampNeg = 0 then m 54 (R 50 f 0).toNatClampNeg u.toNatClampNeg else R 42 (R 50 f 0).toNatClampNeg 0) < R 65 f p ↔ rpS R (6 * (R 50 f 0).toNatClampNeg + u.toNatClampNeg) (R 11 0 0).toNatClampNeg ≤ R 60 f p := by
    rw [i32_lt, i32_le]
    omega
  simp only [sw]
theorem pz_canReadByGrants : PZ_canReadByGrants vInv := by
  intro n g m h hn u x y
  obtain ⟨c1, c2, c3, c4, c5, c6⟩ := pz_canRead n g m h hn u x y
  have hX : X_X11_canReadByGrants g u x y = X_X11_canRead g u x y := rfl
  obtain ⟨f1, f2, f3⟩ := repE h (by omega)
  have hG : ∀ c, c ∉ ([15, 81, 87] : List Nat) → ∀ i j, S_X11_canReadByGrants g u x y c i j = g c i j := fun c hc i j => by
    unfold S_X11_canReadByGrants
    split
    · split
      · split
        · exact f1 c (fun e => hc (by rw [e]; decide)) i j
        · rfl
      · rfl
    · rfl
  refine ⟨?_, fun q => ?_, vInv_g hG c3, p_ph (hG 14 (by decide) 0 0), c5, c6⟩
  · rw [hX]; exact c1
  · rw [hX] at q
    refine Eq.trans ?_ (c2 q)
    rcases nU h u with ⟨a1, a2, a3, a4, a5, a6, a7⟩ | ⟨a1, a2, -⟩
    · rcases nPt h x y with ⟨p0, p1, p2, p3, x0, x1, x2, x3, y0, y1, y2, y3, pt⟩ | ⟨p0, p1, p2, p3⟩ | ⟨p0, p1, p2, p3⟩
      · have k := keySh f3 f2 (f := x.toNatClampNeg) (p := y.toNatClampNeg) (u := u) (by rw [f1 2 (by decide)]; omega) (by rw [f1 106 (by decide)]; exact pt) a3 a5
        have kk : V_X11_isKeyKnown (S_X2_replay g) u x.toNatClampNeg y.toNatClampNeg = V_X11_isKeyKnown g u x.toNatClampNeg y.toNatClampNeg := by
          unfold V_X11_isKeyKnown V_X3_latestKnownTo V_X3_hasMember
          simp only [f1 50 (by decide), f1 65 (by decide), f1 44 (by decide), f1 42 (by decide), f1 47 (by decide)]
        rw [kk, f1 48 (by decide), f1 50 (by decide), f1 60 (by decide)] at k
        simp only [V_X11_canReadByGrants, V_X11_canRead, a1, p0, p1, ↓reduceIte]
        exact k.symm
      · exfalso
        have e : X_X11_canRead g u x y = 1 := by
          unfold X_X11_canRead
          rw [if_pos a1]
          rcases p0 with p0 | p0
          · rw [if_pos p0, if_neg (by rw [p1]; decide), p1]
          · rw [if_neg (by rw [p0]; decide), p0]
        rw [e] at q; exact absurd q (by decide)
      · exfalso
        exact absurd q (by simp only [X_X11_canRead, a1, p0, p1, ↓reduceIte, n20]; decide)
    · exfalso
      exact absurd q (by simp only [X_X11_canRead, a1, n10, ↓reduceIte]; decide)
theorem bothE {n : Nat} {R m : vS} (h : vInv n R m) (hR : ∀ p, p < 30 → R 87 p 0 = rpS R p (R 11 0 0).toNatClampNeg) {f p : Nat} (hf : (f : Int) < (R 2 0 0).toInt) (hp : R 106 f p ≠ 0) : V_X11_doBothWaysAgree R f p = 1 := by
  have u1 := h.2.1.1
  have u2 := h.2.1.2.1
  have L : ∀ (k i : Nat), i + k = 7 → i ≤ 6 → VL_X11_doBothWaysAgree_2 R f p k i = 1 := by
    intro k
    induction k with
    | zero => intro i hh hi; exfalso; omega
    | succ k ih =>
      intro i hh hi
      have ei : (nI i).toInt = (i : Int) := nI_toInt (by omega)
      unfold VL_X11_doBothWaysAgree_2
      by_cases c : R 0 0 0 ≤ nI i
      · rw [if_pos c]
      · rw [if_neg c]
        rw [i32_le, ei] at c
        rw [if_pos (keySh h hR hf hp (by rw [ei]; omega) (by rw [nI_clamp (by omega)]; omega))]
        exact ih (i + 1) (by omega) (by omega)
  exact L 7 0 (by omega) (by omega)
theorem and1 {a : Int32} (h : a = 0 ∨ a = 1) : a &&& 1 = a := by rcases h with rfl | rfl <;> decide
theorem and0 {a : Int32} (h : a = 0 ∨ a = 1) : a &&& 0 = 0 := by rcases h with rfl | rfl <;> decide
theorem sound0 {n : Nat} {R m : vS} (h : vInv n R m) (hR : ∀ p, p < 30 → R 87 p 0 = rpS R p (R 11 0 0).toNatClampNeg) {f : Nat} (hf : (f : Int) < (R 2 0 0).toInt) : ∀ (k i : Nat), i + k = 9 → i ≤ 8 → VL_X11_isFileSound_22 R f k i 0 = 1 := by
  intro k
  induction k with
  | zero => intro i hh hi; exfalso; omega
  | succ k ih =>
    intro i hh hi
    unfold VL_X11_isFileSound_22
    have e0 : ¬ nI i < 0 := by rw [i32_lt, i00, nI_toInt (by omega)]; omega
    rw [show (8 : Int32) = nI 8 from rfl]
    by_cases c : 8 ≤ i
    · rw [if_pos (pLe (by omega) (by omega) c)]
    · rw [if_neg (nLe (by omega) (by omega) c), if_neg e0, if_neg (nLe (by omega) (by omega) c)]
      have I := ih (i + 1) (by omega) (by omega)
      by_cases d : R 106 f i = 0
      · rw [if_pos d]; exact I
      · rw [if_neg d, if_pos rfl, bothE h hR hf d, if_neg (by decide)]; exact I
theorem sound1 {n : Nat} {R m q q9 : vS} {x9 : Int32} {K : Nat → Int32 → vS → Int32} (h : vInv n R m) (hR : ∀ p, p < 30 → R 87 p 0 = rpS R p (R 11 0 0).toNatClampNeg) {f : Nat} (hf : (f : Int) < (R 2 0 0).toInt) : ∀ (k i : Nat) (a : Int32), i + k = 9 → i ≤ 8 → (a = 0 ∨ a = 1) → VL_X12_isSound_43 m f x9 q9 K k i 1 a q = K (f + 1) (if a = 0 then 0 else VL_X11_isFileSound_22 R f k i 1) q := by
  intro k
  induction k with
  | zero => intro i a hh hi; exfalso; omega
  | succ k ih =>
    intro i a hh hi ha
    unfold VL_X11_isFileSound_22 VL_X12_isSound_43
    have e0 : ¬ nI i < 0 := by rw [i32_lt, i00, nI_toInt (by omega)]; omega
    rw [show (8 : Int32) = nI 8 from rfl, if_neg (by decide : ¬ (1 : Int32) = 0)]
    by_cases c : 8 ≤ i
    · rw [if_pos (pLe (by omega) (by omega) c), if_pos (pLe (by omega) (by omega) c)]
      rcases ha with rfl | rfl
      · rw [if_pos rfl]
      · rw [if_neg (by decide)]
    · rw [if_neg (nLe (by omega) (by omega) c), if_neg (nLe (by omega) (by omega) c), if_neg e0, if_neg (nLe (by omega) (by omega) c), if_neg (by decide : ¬ (1 : Int32) = 0)]
      have hP := h.2.2.2.2.2.2.2.2.2.1
      rcases hP f i with ⟨p1, p2⟩ | ⟨p0, p1, p2, p3, p4, p5, p6, p7, p8, -⟩
      · rw [if_pos p1, if_pos p2, and1 ha]
        exact ih (i + 1) a (by omega) (by omega) ha
      · have c5 : ¬ m 63 f i = 0 := fun z => by rw [p2, z] at p3; exact absurd p3 (by decide)
        rw [if_neg p1, if_neg c5, bothE h hR hf p1, if_neg (by decide : ¬ (1 : Int32) = 0)]
        have eo : V_X6_opened R f i = pUnseal (m 65 f i) (V_X12_keyOf q (nI f) (m 61 f i) (nI i)) := by
          unfold V_X6_opened V_X12_keyOf
          rw [p6, p7]
        rw [eo, p5]
        by_cases d : pUnseal (m 65 f i) (V_X12_keyOf q (nI f) (m 61 f i) (nI i)) = m 67 f i
        · rw [if_pos d, if_pos d, and1 ha]
          exact ih (i + 1) a (by omega) (by omega) ha
        · rw [if_neg d, if_neg d, and0 ha, ite_self]
          exact (ih (i + 1) 0 (by omega) (by omega) (Or.inl rfl)).trans (by rw [if_pos rfl])
theorem soundS {m q q9 : vS} {x9 : Int32} {K : Nat → Int32 → vS → vS} {f : Nat} (hK : ∀ i a, K i a q = q) : ∀ (k i : Nat) (b a : Int32), SL_X12_isSound_43 m f x9 q9 K k i b a q = q := by
  intro k
  induction k with
  | zero => intro i b a; rfl
  | succ k ih =>
    intro i b a
    unfold SL_X12_isSound_43
    split
    · exact hK _ _
    · split
      · exact hK _ _
      · split
        · exact ih _ _ _
        · split <;> exact ih _ _ _
theorem soundS9 {m : vS} : ∀ (k i : Nat) (a : Int32) (q : vS), SL_X12_isSound_9 m k i a q = q := by
  intro k
  induction k with
  | zero => intro i a q; rfl
  | succ k ih =>
    intro i a q
    unfold SL_X12_isSound_9
    split
    · rfl
    · split
      · split <;> exact soundS (fun i a => ih i a q) _ _ _ _
      · exact soundS (fun i a => ih i a q) _ _ _ _
theorem soundC9 {g : vS} : ∀ (k i : Nat) (q : vS), SL_X11_isSound_9 g k i q = q := by
  intro k
  induction k with
  | zero => intro i q; rfl
  | succ k ih =>
    intro i q
    unfold SL_X11_isSound_9
    split
    · rfl
    · split
      · rfl
      · split
        · exact ih _ _
        · split
          · rfl
          · exact ih _ _
theorem pz_isSound : PZ_isSound vInv := by
  intro n g m h hn
  obtain ⟨f1, f2, f3⟩ := repE h (by omega)
  have e4 := vE_ h (a := 2) (b := 4) (by decide) 0 0
  have e68 := vE_ h (a := 53) (b := 68) (by decide)
  have F : 0 ≤ (g 2 0 0).toInt ∧ (g 2 0 0).toInt ≤ 20 ∧ (∀ f : Nat, g 105 f 0 = 0 ↔ (g 2 0 0).toInt ≤ (f : Int)) := by
    obtain ⟨-, -, -, -, -, -, -, hF, -⟩ := h
    exact ⟨hF.1, hF.2.1, hF.2.2.1⟩
  have hS : S_X12_isSound m = s3 m 1 0 0 0 := soundS9 _ _ _ _
  have hG : S_X11_isSound g = S_X2_replay g := soundC9 _ _ _
  have hw : vInv n (S_X2_replay g) (s3 m 1 0 0 0) := by
    have q := vInv_w (k := 0) f3
    obtain ⟨a0, a1, a2, a3, a4, a5, a6, a7, a8, a9, a10, a11, a12, a13, a14, a15, a16, a17, a18, a19, -⟩ := q
    obtain ⟨-, -, -, -, -, -, -, -, -, -, -, -, -, -, -, -, -, -, -, -, hN⟩ := f3
    exact ⟨a0, a1, a2, a3, a4, a5, a6, a7, a8, a9, a10, a11, a12, a13, a14, a15, a16, a17, a18, a19, rN_k (fun _ _ _ _ => rfl) (fun c hc _ _ => s3_k (by intro e; subst e; revert hc; decide)) hN⟩
  have L : ∀ (k i : Nat) (a : Int32), i + k = 21 → i ≤ 20 → (a = 0 ∨ a = 1) → VL_X12_isSound_9 m k i a (s3 m 1 0 0 0) = if a = 0 then 0 else VL_X11_isSound_9 g k i (S_X2_replay g) := by
    intro k
    induction k with
    | zero => intro i a hh hi; exfalso; omega
    | succ k ih =>
      intro i a hh hi ha
      have ei : (nI i).toInt = (i : Int) := nI_toInt (by omega)
      unfold VL_X12_isSound_9 VL_X11_isSound_9
      rw [e4]
      by_cases d : g 2 0 0 ≤ nI i
      · rw [if_pos d, if_pos d]
        rcases ha with rfl | rfl
        · rw [if_pos rfl]
        · rw [if_neg (by decide)]
      · rw [if_neg d, if_neg d]
        rw [i32_le, ei] at d
        have d2 : ¬ 20 ≤ nI i := by rw [i32_le, ei, show (20 : Int32).toInt = 20 from by decide]; omega
        have d3 : ¬ g 105 i 0 = 0 := fun q => by have := (F.2.2 i).mp q; omega
        rw [if_neg d2, if_neg d3, e68]
        have hf : (i : Int) < (S_X2_replay g 2 0 0).toInt := by rw [f1 2 (by decide)]; omega
        have fs : V_X11_isFileSound (S_X2_replay g) i = 0 ∨ V_X11_isFileSound (S_X2_replay g) i = 1 := by
          have B : ∀ (k i : Nat) (b : Int32), VL_X11_isFileSound_22 (S_X2_replay g) i k 0 b = 0 ∨ VL_X11_isFileSound_22 (S_X2_replay g) i k 0 b = 1 := fun k i b => by
            have B2 : ∀ (k j : Nat), VL_X11_isFileSound_22 (S_X2_replay g) i k j b = 0 ∨ VL_X11_isFileSound_22 (S_X2_replay g) i k j b = 1 := by
              intro k
              induction k with
              | zero => intro j; exact Or.inl rfl
              | succ k ih =>
                intro j
                unfold VL_X11_isFileSound_22
                (repeat' split) <;> first | exact Or.inl rfl | exact Or.inr rfl | exact ih _
            exact B2 k 0
          unfold V_X11_isFileSound
          (repeat' split) <;> exact B _ _ _
        have nx : ∀ z : Int32, (z = 0 ∨ z = 1) → (z = 0 → False) ∨ z = 0 := fun z hz => by rcases hz with rfl | rfl; exact Or.inr rfl; exact Or.inl (by decide)
        have closed : ∀ x9 q9, V_X11_isFileSound (S_X2_replay g) i = 1 → VL_X12_isSound_43 m i x9 q9 (VL_X12_isSound_9 m k) (8 + 1) 0 0 a (s3 m 1 0 0 0) = if a = 0 then 0 else (if V_X11_isFileSound (S_X2_replay g) i = 0 then 0 else VL_X11_isSound_9 g k (i + 1) (S_X2_replay g)) := fun x9 q9 h1 => by
          rw [h1, if_neg (by decide : ¬ (1 : Int32) = 0), ← ih (i + 1) a (by omega) (by omega) ha]
          exact if_pos rfl
        by_cases t : g 53 i 0 = 0
        · rw [if_pos t]
          have es : V_X12_isSpoiled (s3 m 1 0 0 0) (nI i) = V_X4_isSpoiled (S_X2_replay g) i := by
            have q := spoE hw (x := nI i) (by rw [ei]; omega) (by rw [ei]; exact hf)
            rw [nI_clamp (by omega)] at q
            exact q
          rw [es]
          by_cases s : V_X4_isSpoiled (S_X2_replay g) i = 0
          · rw [if_pos s]
            have e1 : V_X11_isFileSound (S_X2_replay g) i = VL_X11_isFileSound_22 (S_X2_replay g) i 9 0 1 := by
              unfold V_X11_isFileSound
              rw [f1 53 (by decide), if_pos t, if_pos s]
            rw [sound1 f3 f2 hf 9 0 a (by omega) (by omega) ha, ← e1]
            rcases ha with rfl | rfl
            · rw [if_pos rfl, if_pos rfl]
              exact (ih (i + 1) 0 (by omega) (by omega) (Or.inl rfl)).trans (if_pos rfl)
            · rw [if_neg (by decide : ¬ (1 : Int32) = 0), if_neg (by decide : ¬ (1 : Int32) = 0)]
              rw [ih (i + 1) _ (by omega) (by omega) fs]
          · rw [if_neg s]
            exact closed _ _ (by unfold V_X11_isFileSound; rw [f1 53 (by decide), if_pos t, if_neg s]; exact sound0 f3 f2 hf 9 0 (by omega) (by omega))
        · rw [if_neg t]
          exact closed _ _ (by unfold V_X11_isFileSound; rw [f1 53 (by decide), if_neg t]; exact sound0 f3 f2 hf 9 0 (by omega) (by omega))
  refine ⟨?_, ?_, ?_, ?_, ?_⟩
  · exact ((L 21 0 1 (by omega) (by omega) (Or.inr rfl)).trans (if_neg (by decide))).symm
  · rw [hG, hS]; exact vInv_w f3
  · rw [hG]; exact p_ph (f1 14 (by decide) 0 0)
  · rw [hS]; exact p_pb (fun _ _ => s3_k (by decide))
  · rw [hS]; exact p_pw (fun _ _ => s3_k (by decide))
