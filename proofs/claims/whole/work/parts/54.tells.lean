section RO
variable {n : Nat} {g m : vS}
theorem vE_ (h : vInv n g m) {a b : Nat} (q : (a, b) ∈ vPairs) (i j : Nat) : m b i j = g a i j := (h.1 (a, b) q i j).symm
theorem hasM {i : Nat} {u : Int32} (h0 : 0 ≤ u.toInt) (h6 : u.toNatClampNeg < 6) : V_X3_hasMember g i u = if g 44 i u.toNatClampNeg = 0 then 0 else 1 := by
  have a := tnI h0
  unfold V_X3_hasMember
  rw [if_neg (by rw [i32_lt, i00]; omega), if_neg (by rw [i32_le, show (6 : Int32).toInt = 6 from by decide]; omega)]
theorem latE (h : vInv n g m) {x u : Int32} (hx : 0 ≤ x.toInt ∧ x.toInt < (g 1 0 0).toInt) (h0 : 0 ≤ u.toInt) (h6 : u.toNatClampNeg < 6) : V_X12_latest m x u = V_X3_latestKnownTo g x.toNatClampNeg u := by
  have e1 := vE_ h (a := 44) (b := 52) (by decide)
  have e2 := vE_ h (a := 42) (b := 50) (by decide)
  obtain ⟨-, -, -, -, -, -, ⟨k1, -⟩, -⟩ := h
  have a := tnI h0
  have b := tnI hx.1
  have k := k1 x.toNatClampNeg u.toNatClampNeg (by omega) h6
  unfold V_X12_latest V_X3_latestKnownTo
  rw [hasM h0 h6, e1, e2, k, if_neg (by rw [i32_lt, i00]; omega : ¬ u < 0), if_neg (by rw [i32_le, show (6 : Int32).toInt = 6 from by decide]; omega : ¬ 6 ≤ u)]
  by_cases c : g 44 x.toNatClampNeg u.toNatClampNeg = 0
  · rw [if_pos c, if_pos c, if_pos rfl, Int32.add_sub_cancel]
  · rw [if_neg c, if_neg c, if_neg (by decide)]
theorem lat_w {k x u : Int32} : V_X12_latest (S_X12_isWrong m k) x u = V_X12_latest m x u := by
  show V_X12_latest (s3 m 1 0 0 k) x u = _
  unfold V_X12_latest
  rw [s3_k (by decide), s3_k (by decide), s3_k (by decide)]
/-- a part that is there, or why not -/
theorem nPt (h : vInv n g m) (a x : Int32) : (X_X11_needFile g a = 0 ∧ X_X11_needPart g a x = 0 ∧ V_X12_isNotThere m 1 a x = 0 ∧ S_X12_isNotThere m 1 a x = s3 m 1 0 0 0 ∧ 0 ≤ a.toInt ∧ a.toInt < (g 2 0 0).toInt ∧ nI a.toNatClampNeg = a ∧ (a.toNatClampNeg : Int) = a.toInt ∧ 0 ≤ x.toInt ∧ x.toInt < 8 ∧ nI x.toNatClampNeg = x ∧ x.toNatClampNeg < 8 ∧ g 106 a.toNatClampNeg x.toNatClampNeg ≠ 0) ∨ ((X_X11_needFile g a = 0 ∨ X_X11_needFile g a = 1) ∧ X_X11_needPart g a x = 1 ∧ V_X12_isNotThere m 1 a x = 1 ∧ S_X12_isNotThere m 1 a x = s3 m 1 0 0 1) ∨ (X_X11_needFile g a = 0 ∧ X_X11_needPart g a x = 2 ∧ V_X12_isNotThere m 1 a x = 1 ∧ S_X12_isNotThere m 1 a x = s3 m 1 0 0 2) := by
  rcases nF h a with ⟨a1, a2, a3, a4, a5, a6, a7⟩ | ⟨a1, a2, -⟩
  · rcases nPn (g := g) (m := m) x with ⟨b1, b2, b3, b4, b5, b6, b7⟩ | ⟨b1, b2, -⟩
    · obtain ⟨-, -, -, -, -, -, -, -, -, hP, -⟩ := h
      rcases hP a.toNatClampNeg x.toNatClampNeg with ⟨c1, c2⟩ | ⟨c0, c1, c2, c3, -⟩
      · refine Or.inr (Or.inl ⟨Or.inl a1, ?_, ?_, ?_⟩)
        · unfold X_X11_needPart
          rw [if_pos a1, if_pos b1, if_neg (by rw [i32_lt, i00]; omega), if_neg (by rw [i32_le, show (8 : Int32).toInt = 8 from by decide]; omega), if_pos c1]
        · unfold V_X12_isNotThere
          rw [if_neg (by decide), if_neg (by rw [a2]; decide), if_neg (by rw [b2]; decide), if_pos c2]; rfl
        · unfold S_X12_isNotThere
          rw [if_neg (by decide), if_neg (by rw [a2]; decide), if_neg (by rw [b2]; decide), if_pos c2]; rfl
      · have c4 : m 63 a.toNatClampNeg x.toNatClampNeg ≠ 0 := fun q => by rw [c2, q] at c3; exact absurd c3 (by decide)
        refine Or.inl ⟨a1, ?_, ?_, ?_, a3, a4, a7, a6, b3, b4, b7, b5, c1⟩
        · unfold X_X11_needPart
          rw [if_pos a1, if_pos b1, if_neg (by rw [i32_lt, i00]; omega), if_neg (by rw [i32_le, show (8 : Int32).toInt = 8 from by decide]; omega), if_neg c1]
        · unfold V_X12_isNotThere
          rw [if_neg (by decide), if_neg (by rw [a2]; decide), if_neg (by rw [b2]; decide), if_neg c4]; rfl
        · unfold S_X12_isNotThere
          rw [if_neg (by decide), if_neg (by rw [a2]; decide), if_neg (by rw [b2]; decide), if_neg c4]; rfl
    · refine Or.inr (Or.inr ⟨a1, ?_, ?_, ?_⟩)
      · unfold X_X11_needPart
        rw [if_pos a1, if_neg (by rw [b1]; decide), b1]
      · unfold V_X12_isNotThere
        rw [if_neg (by decide), if_neg (by rw [a2]; decide), if_pos b2]; rfl
      · unfold S_X12_isNotThere
        rw [if_neg (by decide), if_neg (by rw [a2]; decide), if_pos b2]; rfl
  · refine Or.inr (Or.inl ⟨Or.inr a1, ?_, ?_, ?_⟩)
    · unfold X_X11_needPart
      rw [if_neg (by rw [a1]; decide), a1]
    · unfold V_X12_isNotThere
      rw [if_neg (by decide), if_pos a2]; rfl
    · unfold S_X12_isNotThere
      rw [if_neg (by decide), if_pos a2]; rfl
theorem notThere0 {a x : Int32} : V_X12_isNotThere m 0 a x = 1 ∧ S_X12_isNotThere m 0 a x = s3 m 1 0 0 1 := ⟨by unfold V_X12_isNotThere; rw [if_pos rfl]; rfl, by unfold S_X12_isNotThere; rw [if_pos rfl]; rfl⟩
theorem markE (h : vInv n g m) {x : Int32} (h0 : 0 ≤ x.toInt) (h1 : x.toInt < (g 2 0 0).toInt) : V_X12_markOf m x = V_X4_markOfParts g x.toNatClampNeg := by
  obtain ⟨-, -, -, -, -, -, -, ⟨-, -, -, f4, -⟩, -, hP, -⟩ := h
  have a := tnI h0
  have e : g 63 x.toNatClampNeg 0 = pMix 6 x := by have q := (f4 x.toNatClampNeg (by omega)).2.1; rw [q, q_nI h0]
  have L : ∀ (k i : Nat) (y : Int32), VL_X12_markOf_9 m x k i y = VL_X4_markOfParts_7 g x.toNatClampNeg k i y := by
    intro k
    induction k with
    | zero => intro i y; rfl
    | succ k ih =>
      intro i y
      unfold VL_X12_markOf_9 VL_X4_markOfParts_7
      rcases hP x.toNatClampNeg i with ⟨c1, c2⟩ | ⟨c0, c1, c2, c3, -, -, c6, -⟩
      · have c5 : m 63 x.toNatClampNeg i ≤ 0 := by rw [c2]; decide
        by_cases d : 8 ≤ nI i
        · rw [if_pos d, if_pos d]
        · rw [if_neg d, if_neg d, if_pos c1, if_pos c5, ih]
      · have c5 : ¬ m 63 x.toNatClampNeg i ≤ 0 := by rw [← c2, i32_le, i00]; omega
        by_cases d : 8 ≤ nI i
        · rw [if_pos d, if_pos d]
        · rw [if_neg d, if_neg d, if_neg c1, if_neg c5, ih, c6]
  unfold V_X12_markOf V_X4_markOfParts
  rw [L, e]
theorem mark_w {k x : Int32} : V_X12_markOf (s3 m 1 0 0 k) x = V_X12_markOf m x := by
  have L : ∀ (q i : Nat) (y : Int32), VL_X12_markOf_9 (s3 m 1 0 0 k) x q i y = VL_X12_markOf_9 m x q i y := by
    intro q
    induction q with
    | zero => intro i y; rfl
    | succ q ih =>
      intro i y
      unfold VL_X12_markOf_9
      rw [s3_k (by decide), s3_k (by decide), ih, ih]
  exact L _ _ _
theorem spoE (h : vInv n g m) {x : Int32} (h0 : 0 ≤ x.toInt) (h1 : x.toInt < (g 2 0 0).toInt) : V_X12_isSpoiled m x = V_X4_isSpoiled g x.toNatClampNeg := by
  unfold V_X12_isSpoiled V_X4_isSpoiled
  rw [markE h h0 h1, vE_ h (a := 52) (b := 57) (by decide)]
theorem spo_w {k x : Int32} : V_X12_isSpoiled (S_X12_isWrong m k) x = V_X12_isSpoiled m x := by
  show V_X12_isSpoiled (s3 m 1 0 0 k) x = _
  unfold V_X12_isSpoiled
  rw [mark_w, s3_k (by decide)]
end RO
theorem pz_isMember : PZ_isMember vInv := by
  intro n g m h hn x u
  have e52 := vE_ h (a := 44) (b := 52) (by decide)
  rcases nG h x with ⟨a1, a2, a3, a4, a5, a6, a7⟩ | ⟨a1, a2, -⟩
  · rcases nU h u with ⟨b1, b2, b3, b4, b5, b6, b7⟩ | ⟨b1, b2, -⟩
    · refine pz_ro h (k := 0) ?_ ?_ ?_
      · simp only [S_X12_isMember, a1, a2, b1, b2, S_X12_isWrong, V_X12_isWrong, V_X12_leaves, S_X12_leaves, if_true, if_false, ↓reduceIte, d10, n10, n20, n30, n40, n50, reduceCtorEq]
      · simp only [X_X11_isMember, a1, a2, b1, b2, S_X12_isWrong, V_X12_isWrong, V_X12_leaves, S_X12_leaves, if_true, if_false, ↓reduceIte, d10, n10, n20, n30, n40, n50, reduceCtorEq]; rfl
      · intro _; simp only [V_X11_isMember, V_X12_isMember, a1, a2, b1, b2, V_X12_isWrong, if_true, if_false, ↓reduceIte, d10, n10, n20, n30, n40, n50, reduceCtorEq, spo_w, lat_w]; rw [hasM b3 b5, e52]
    · refine pz_ro h (k := 1) ?_ ?_ ?_
      · simp only [S_X12_isMember, a1, a2, b1, b2, S_X12_isWrong, V_X12_isWrong, V_X12_leaves, S_X12_leaves, if_true, if_false, ↓reduceIte, d10, n10, n20, n30, n40, n50, reduceCtorEq]
      · simp only [X_X11_isMember, a1, a2, b1, b2, S_X12_isWrong, V_X12_isWrong, V_X12_leaves, S_X12_leaves, if_true, if_false, ↓reduceIte, d10, n10, n20, n30, n40, n50, reduceCtorEq]; rfl
      · intro q; exact absurd q (by simp only [X_X11_isMember, a1, a2, b1, b2, S_X12_isWrong, V_X12_isWrong, V_X12_leaves, S_X12_leaves, if_true, if_false, ↓reduceIte, d10, n10, n20, n30, n40, n50, reduceCtorEq]; decide)
  · refine pz_ro h (k := 1) ?_ ?_ ?_
    · simp only [S_X12_isMember, a1, a2, S_X12_isWrong, V_X12_isWrong, V_X12_leaves, S_X12_leaves, if_true, if_false, ↓reduceIte, d10, n10, n20, n30, n40, n50, reduceCtorEq]
    · simp only [X_X11_isMember, a1, a2, S_X12_isWrong, V_X12_isWrong, V_X12_leaves, S_X12_leaves, if_true, if_false, ↓reduceIte, d10, n10, n20, n30, n40, n50, reduceCtorEq]; rfl
    · intro q; exact absurd q (by simp only [X_X11_isMember, a1, a2, S_X12_isWrong, V_X12_isWrong, V_X12_leaves, S_X12_leaves, if_true, if_false, ↓reduceIte, d10, n10, n20, n30, n40, n50, reduceCtorEq]; decide)
theorem pz_epoch : PZ_epoch vInv := by
  intro n g m h hn x
  have e50 := vE_ h (a := 42) (b := 50) (by decide)
  rcases nG h x with ⟨a1, a2, a3, a4, a5, a6, a7⟩ | ⟨a1, a2, -⟩
  · refine pz_ro h (k := 0) ?_ ?_ ?_
    · simp only [S_X12_epoch, a1, a2, S_X12_isWrong, V_X12_isWrong, V_X12_leaves, S_X12_leaves, if_true, if_false, ↓reduceIte, d10, n10, n20, n30, n40, n50, reduceCtorEq]
    · simp only [X_X11_epoch, a1, a2, S_X12_isWrong, V_X12_isWrong, V_X12_leaves, S_X12_leaves, if_true, if_false, ↓reduceIte, d10, n10, n20, n30, n40, n50, reduceCtorEq]; rfl
    · intro _; simp only [V_X11_epoch, V_X12_epoch, a1, a2, V_X12_isWrong, if_true, if_false, ↓reduceIte, d10, n10, n20, n30, n40, n50, reduceCtorEq, spo_w, lat_w]; rw [e50]
  · refine pz_ro h (k := 1) ?_ ?_ ?_
    · simp only [S_X12_epoch, a1, a2, S_X12_isWrong, V_X12_isWrong, V_X12_leaves, S_X12_leaves, if_true, if_false, ↓reduceIte, d10, n10, n20, n30, n40, n50, reduceCtorEq]
    · simp only [X_X11_epoch, a1, a2, S_X12_isWrong, V_X12_isWrong, V_X12_leaves, S_X12_leaves, if_true, if_false, ↓reduceIte, d10, n10, n20, n30, n40, n50, reduceCtorEq]; rfl
    · intro q; exact absurd q (by simp only [X_X11_epoch, a1, a2, S_X12_isWrong, V_X12_isWrong, V_X12_leaves, S_X12_leaves, if_true, if_false, ↓reduceIte, d10, n10, n20, n30, n40, n50, reduceCtorEq]; decide)
theorem pz_known : PZ_known vInv := by
  intro n g m h hn x u
  rcases nG h x with ⟨a1, a2, a3, a4, a5, a6, a7⟩ | ⟨a1, a2, -⟩
  · rcases nU h u with ⟨b1, b2, b3, b4, b5, b6, b7⟩ | ⟨b1, b2, -⟩
    · refine pz_ro h (k := 0) ?_ ?_ ?_
      · simp only [S_X12_known, a1, a2, b1, b2, S_X12_isWrong, V_X12_isWrong, V_X12_leaves, S_X12_leaves, if_true, if_false, ↓reduceIte, d10, n10, n20, n30, n40, n50, reduceCtorEq]
      · simp only [X_X11_known, a1, a2, b1, b2, S_X12_isWrong, V_X12_isWrong, V_X12_leaves, S_X12_leaves, if_true, if_false, ↓reduceIte, d10, n10, n20, n30, n40, n50, reduceCtorEq]; rfl
      · intro _; simp only [V_X11_known, V_X12_known, a1, a2, b1, b2, V_X12_isWrong, if_true, if_false, ↓reduceIte, d10, n10, n20, n30, n40, n50, reduceCtorEq, spo_w, lat_w]; rw [latE h ⟨a3, a4⟩ b3 b5]
    · refine pz_ro h (k := 1) ?_ ?_ ?_
      · simp only [S_X12_known, a1, a2, b1, b2, S_X12_isWrong, V_X12_isWrong, V_X12_leaves, S_X12_leaves, if_true, if_false, ↓reduceIte, d10, n10, n20, n30, n40, n50, reduceCtorEq]
      · simp only [X_X11_known, a1, a2, b1, b2, S_X12_isWrong, V_X12_isWrong, V_X12_leaves, S_X12_leaves, if_true, if_false, ↓reduceIte, d10, n10, n20, n30, n40, n50, reduceCtorEq]; rfl
      · intro q; exact absurd q (by simp only [X_X11_known, a1, a2, b1, b2, S_X12_isWrong, V_X12_isWrong, V_X12_leaves, S_X12_leaves, if_true, if_false, ↓reduceIte, d10, n10, n20, n30, n40, n50, reduceCtorEq]; decide)
  · refine pz_ro h (k := 1) ?_ ?_ ?_
    · simp only [S_X12_known, a1, a2, S_X12_isWrong, V_X12_isWrong, V_X12_leaves, S_X12_leaves, if_true, if_false, ↓reduceIte, d10, n10, n20, n30, n40, n50, reduceCtorEq]
    · simp only [X_X11_known, a1, a2, S_X12_isWrong, V_X12_isWrong, V_X12_leaves, S_X12_leaves, if_true, if_false, ↓reduceIte, d10, n10, n20, n30, n40, n50, reduceCtorEq]; rfl
    · intro q; exact absurd q (by simp only [X_X11_known, a1, a2, S_X12_isWrong, V_X12_isWrong, V_X12_leaves, S_X12_leaves, if_true, if_false, ↓reduceIte, d10, n10, n20, n30, n40, n50, reduceCtorEq]; decide)
theorem pz_mark : PZ_mark vInv := by
  intro n g m h hn x
  have e57 := vE_ h (a := 52) (b := 57) (by decide)
  rcases nF h x with ⟨a1, a2, a3, a4, a5, a6, a7⟩ | ⟨a1, a2, -⟩
  · refine pz_ro h (k := 0) ?_ ?_ ?_
    · simp only [S_X12_mark, a1, a2, S_X12_isWrong, V_X12_isWrong, V_X12_leaves, S_X12_leaves, if_true, if_false, ↓reduceIte, d10, n10, n20, n30, n40, n50, reduceCtorEq]
    · simp only [X_X11_mark, a1, a2, S_X12_isWrong, V_X12_isWrong, V_X12_leaves, S_X12_leaves, if_true, if_false, ↓reduceIte, d10, n10, n20, n30, n40, n50, reduceCtorEq]; rfl
    · intro _; simp only [V_X11_mark, V_X12_mark, a1, a2, V_X12_isWrong, if_true, if_false, ↓reduceIte, d10, n10, n20, n30, n40, n50, reduceCtorEq, spo_w, lat_w]; rw [e57]
  · refine pz_ro h (k := 1) ?_ ?_ ?_
    · simp only [S_X12_mark, a1, a2, S_X12_isWrong, V_X12_isWrong, V_X12_leaves, S_X12_leaves, if_true, if_false, ↓reduceIte, d10, n10, n20, n30, n40, n50, reduceCtorEq]
    · simp only [X_X11_mark, a1, a2, S_X12_isWrong, V_X12_isWrong, V_X12_leaves, S_X12_leaves, if_true, if_false, ↓reduceIte, d10, n10, n20, n30, n40, n50, reduceCtorEq]; rfl
    · intro q; exact absurd q (by simp only [X_X11_mark, a1, a2, S_X12_isWrong, V_X12_isWrong, V_X12_leaves, S_X12_leaves, if_true, if_false, ↓reduceIte, d10, n10, n20, n30, n40, n50, reduceCtorEq]; decide)
theorem pz_head : PZ_head vInv := by
  intro n g m h hn x
  have e42 := vE_ h (a := 22) (b := 42) (by decide)
  rcases nU h x with ⟨a1, a2, a3, a4, a5, a6, a7⟩ | ⟨a1, a2, -⟩
  · refine pz_ro h (k := 0) ?_ ?_ ?_
    · simp only [S_X12_head, a1, a2, S_X12_isWrong, V_X12_isWrong, V_X12_leaves, S_X12_leaves, if_true, if_false, ↓reduceIte, d10, n10, n20, n30, n40, n50, reduceCtorEq]
    · simp only [X_X11_head, a1, a2, S_X12_isWrong, V_X12_isWrong, V_X12_leaves, S_X12_leaves, if_true, if_false, ↓reduceIte, d10, n10, n20, n30, n40, n50, reduceCtorEq]; rfl
    · intro _; simp only [V_X11_head, V_X12_head, a1, a2, V_X12_isWrong, if_true, if_false, ↓reduceIte, d10, n10, n20, n30, n40, n50, reduceCtorEq, spo_w, lat_w]; rw [e42]
  · refine pz_ro h (k := 1) ?_ ?_ ?_
    · simp only [S_X12_head, a1, a2, S_X12_isWrong, V_X12_isWrong, V_X12_leaves, S_X12_leaves, if_true, if_false, ↓reduceIte, d10, n10, n20, n30, n40, n50, reduceCtorEq]
    · simp only [X_X11_head, a1, a2, S_X12_isWrong, V_X12_isWrong, V_X12_leaves, S_X12_leaves, if_true, if_false, ↓reduceIte, d10, n10, n20, n30, n40, n50, reduceCtorEq]; rfl
    · intro q; exact absurd q (by simp only [X_X11_head, a1, a2, S_X12_isWrong, V_X12_isWrong, V_X12_leaves, S_X12_leaves, if_true, if_false, ↓reduceIte, d10, n10, n20, n30, n40, n50, reduceCtorEq]; decide)
theorem pz_alarms : PZ_alarms vInv := by
  intro n g m h hn x
  have e44 := vE_ h (a := 24) (b := 44) (by decide)
  rcases nU h x with ⟨a1, a2, a3, a4, a5, a6, a7⟩ | ⟨a1, a2, -⟩
  · refine pz_ro h (k := 0) ?_ ?_ ?_
    · simp only [S_X12_alarms, a1, a2, S_X12_isWrong, V_X12_isWrong, V_X12_leaves, S_X12_leaves, if_true, if_false, ↓reduceIte, d10, n10, n20, n30, n40, n50, reduceCtorEq]
    · simp only [X_X11_alarms, a1, a2, S_X12_isWrong, V_X12_isWrong, V_X12_leaves, S_X12_leaves, if_true, if_false, ↓reduceIte, d10, n10, n20, n30, n40, n50, reduceCtorEq]; rfl
    · intro _; simp only [V_X11_alarms, V_X12_alarms, a1, a2, V_X12_isWrong, if_true, if_false, ↓reduceIte, d10, n10, n20, n30, n40, n50, reduceCtorEq, spo_w, lat_w]; rw [e44]
  · refine pz_ro h (k := 1) ?_ ?_ ?_
    · simp only [S_X12_alarms, a1, a2, S_X12_isWrong, V_X12_isWrong, V_X12_leaves, S_X12_leaves, if_true, if_false, ↓reduceIte, d10, n10, n20, n30, n40, n50, reduceCtorEq]
    · simp only [X_X11_alarms, a1, a2, S_X12_isWrong, V_X12_isWrong, V_X12_leaves, S_X12_leaves, if_true, if_false, ↓reduceIte, d10, n10, n20, n30, n40, n50, reduceCtorEq]; rfl
    · intro q; exact absurd q (by simp only [X_X11_alarms, a1, a2, S_X12_isWrong, V_X12_isWrong, V_X12_leaves, S_X12_leaves, if_true, if_false, ↓reduceIte, d10, n10, n20, n30, n40, n50, reduceCtorEq]; decide)
theorem pz_status : PZ_status vInv := by
  intro n g m h hn x
  have e68 := vE_ h (a := 53) (b := 68) (by decide)
  rcases nF h x with ⟨a1, a2, a3, a4, a5, a6, a7⟩ | ⟨a1, a2, -⟩
  · refine pz_ro h (k := 0) ?_ ?_ ?_
    · simp only [S_X12_status, a1, a2, S_X12_isWrong, V_X12_isWrong, V_X12_leaves, S_X12_leaves, if_true, if_false, ↓reduceIte, d10, n10, n20, n30, n40, n50, reduceCtorEq]
    · simp only [X_X11_status, a1, a2, S_X12_isWrong, V_X12_isWrong, V_X12_leaves, S_X12_leaves, if_true, if_false, ↓reduceIte, d10, n10, n20, n30, n40, n50, reduceCtorEq]; rfl
    · intro _; simp only [V_X11_status, V_X12_status, a1, a2, V_X12_isWrong, if_true, if_false, ↓reduceIte, d10, n10, n20, n30, n40, n50, reduceCtorEq, spo_w, lat_w]; simp only [spoE h a3 a4, e68]
  · refine pz_ro h (k := 1) ?_ ?_ ?_
    · simp only [S_X12_status, a1, a2, S_X12_isWrong, V_X12_isWrong, V_X12_leaves, S_X12_leaves, if_true, if_false, ↓reduceIte, d10, n10, n20, n30, n40, n50, reduceCtorEq]
    · simp only [X_X11_status, a1, a2, S_X12_isWrong, V_X12_isWrong, V_X12_leaves, S_X12_leaves, if_true, if_false, ↓reduceIte, d10, n10, n20, n30, n40, n50, reduceCtorEq]; rfl
    · intro q; exact absurd q (by simp only [X_X11_status, a1, a2, S_X12_isWrong, V_X12_isWrong, V_X12_leaves, S_X12_leaves, if_true, if_false, ↓reduceIte, d10, n10, n20, n30, n40, n50, reduceCtorEq]; decide)
theorem pz_leaves : PZ_leaves vInv := by
  intro n g m h hn
  refine ⟨?_, vInv_w h, Nat.le_refl _, Nat.le_of_eq (vPb_k (fun _ _ => s3_k (by decide))).symm, Nat.le_of_eq (vPw_k (fun _ _ => s3_k (by decide))).symm⟩
  exact vE_ h (a := 4) (b := 11) (by decide) 0 0 |>.symm
theorem pz_conflicts : PZ_conflicts vInv := by
  intro n g m h hn
  refine ⟨?_, vInv_w h, Nat.le_refl _, Nat.le_of_eq (vPb_k (fun _ _ => s3_k (by decide))).symm, Nat.le_of_eq (vPw_k (fun _ _ => s3_k (by decide))).symm⟩
  exact vE_ h (a := 5) (b := 12) (by decide) 0 0 |>.symm
theorem pz_leaf : PZ_leaf vInv := by
  intro n g m h hn x
  have e11 := eL h
  have b := bL h
  have e73 := vE_ h (a := 80) (b := 73) (by decide)
  have s := i32_sub1 b.1
  by_cases c : 0 ≤ x.toInt ∧ x.toInt < (g 4 0 0).toInt
  · have i1 : V_X12_isBetween m x 0 (g 4 0 0 - 1) = 1 := isB1 (by rw [s, i00]; omega)
    have c1 : ¬ x < 0 := by rw [i32_lt, i00]; omega
    have c2 : x < g 4 0 0 := i32_lt.mpr c.2
    have c3 : ¬ 300 ≤ x := by rw [i32_le, show (300 : Int32).toInt = 300 from by decide]; omega
    refine pz_ro h (k := 0) ?_ ?_ ?_
    · simp only [S_X12_leaf, e11, i1, S_X12_isWrong, ↓reduceIte, d10]
    · simp only [X_X11_leaf, V_X5_count, c1, c2, ↓reduceIte]; rfl
    · intro _; simp only [V_X11_leaf, V_X12_leaf, V_X5_count, V_X5_leafAt, e11, i1, c1, c2, c3, ↓reduceIte, d10, e73]
  · have i1 : V_X12_isBetween m x 0 (g 4 0 0 - 1) = 0 := isB0 (by rw [s, i00]; omega)
    have hx : X_X11_leaf g x = 5 := by
      unfold X_X11_leaf V_X5_count
      by_cases c1 : x < 0
      · rw [if_pos c1]
      · rw [if_neg c1, if_neg (by rw [i32_lt, i00] at c1; rw [i32_lt]; omega)]
    refine pz_ro h (k := 1) ?_ ?_ ?_
    · simp only [S_X12_leaf, e11, i1, S_X12_isWrong, ↓reduceIte]
    · rw [hx]; rfl
    · intro q; rw [hx] at q; exact absurd q (by decide)
theorem pz_conflictAt : PZ_conflictAt vInv := by
  intro n g m h hn x
  have e12 := vE_ h (a := 5) (b := 12) (by decide)
  have e82 := vE_ h (a := 84) (b := 82) (by decide)
  have b : 0 ≤ (g 5 0 0).toInt ∧ (g 5 0 0).toInt ≤ 10 := by
    obtain ⟨hE, -, -, -, -, -, -, -, -, -, -, -, -, hC, -⟩ := h
    exact hC
  have s := i32_sub1 b.1
  by_cases c : 0 ≤ x.toInt ∧ x.toInt < (g 5 0 0).toInt
  · have i1 : V_X12_isBetween m x 0 (g 5 0 0 - 1) = 1 := isB1 (by rw [s, i00]; omega)
    have c1 : ¬ x < 0 := by rw [i32_lt, i00]; omega
    have c2 : ¬ g 5 0 0 ≤ x := by rw [i32_le]; omega
    have c3 : x < 10 := by rw [i32_lt, show (10 : Int32).toInt = 10 from by decide]; omega
    refine pz_ro h (k := 0) ?_ ?_ ?_
    · simp only [S_X12_conflictAt, e12, i1, S_X12_isWrong, ↓reduceIte, d10]
    · simp only [X_X11_conflictAt, c1, c2, c3, ↓reduceIte]; rfl
    · intro _; simp only [V_X11_conflictAt, V_X12_conflictAt, e12, i1, c1, c2, c3, ↓reduceIte, d10, e82]
  · have i1 : V_X12_isBetween m x 0 (g 5 0 0 - 1) = 0 := isB0 (by rw [s, i00]; omega)
    have hx : X_X11_conflictAt g x = 5 := by
      unfold X_X11_conflictAt
      by_cases c1 : x < 0
      · rw [if_pos c1]
      · rw [if_neg c1, if_pos (by rw [i32_lt, i00] at c1; rw [i32_le]; omega)]
    refine pz_ro h (k := 1) ?_ ?_ ?_
    · simp only [S_X12_conflictAt, e12, i1, S_X12_isWrong, ↓reduceIte]
    · rw [hx]; rfl
    · intro q; rw [hx] at q; exact absurd q (by decide)
theorem pz_shown : PZ_shown vInv := by
  intro n g m h hn x
  have e7 := vE_ h (a := 6) (b := 7) (by decide)
  have e8 := vE_ h (a := 7) (b := 8) (by decide)
  have e9 := vE_ h (a := 8) (b := 9) (by decide)
  by_cases c1 : x = 110
  · refine pz_ro h (k := 0) ?_ ?_ ?_
    · simp only [S_X12_shown, c1, S_X12_isWrong, ↓reduceIte]
    · simp only [X_X11_shown, c1, ↓reduceIte]; rfl
    · intro _; simp only [V_X11_shown, V_X12_shown, c1, ↓reduceIte, e7]
  · by_cases c2 : x = 114
    · refine pz_ro h (k := 0) ?_ ?_ ?_
      · rw [S_X12_shown, if_neg c1, if_pos c2]; rfl
      · rw [X_X11_shown, if_neg c1, if_pos c2]; rfl
      · intro _; rw [V_X11_shown, V_X12_shown, if_neg c1, if_neg c1, if_neg c1, if_pos c2, if_pos c2, if_pos c2, e8]
    · by_cases c3 : x = 102
      · refine pz_ro h (k := 0) ?_ ?_ ?_
        · rw [S_X12_shown, if_neg c1, if_neg c2, if_pos c3]; rfl
        · rw [X_X11_shown, if_neg c1, if_neg c2, if_pos c3]; rfl
        · intro _; simp only [V_X11_shown, V_X12_shown, if_neg c1, if_neg c2, if_pos c3, e9]
      · refine pz_ro h (k := 1) ?_ ?_ ?_
        · rw [S_X12_shown, if_neg c1, if_neg c2, if_neg c3]; rfl
        · rw [X_X11_shown, if_neg c1, if_neg c2, if_neg c3]; rfl
        · intro q; rw [X_X11_shown, if_neg c1, if_neg c2, if_neg c3] at q; exact absurd q (by decide)
