theorem rPs {n : Nat} {g m : vS} (h : vInv n g m) {f p : Nat} (q : g 106 f p ≠ 0) : p < 8 ∧ g 106 f p ≠ 0 ∧ g 56 f p = m 63 f p ∧ 1 ≤ (g 56 f p).toInt ∧ g 57 f p = m 61 f p ∧ g 59 f p = m 67 f p ∧ g 58 f p = m 65 f p ∧ g 64 f p = pMix (pMix (pMix 4 (nI f)) (m 61 f p)) (nI p) ∧ g 65 f p = m 59 f (m 61 f p).toNatClampNeg ∧ g 67 f p = nI p ∧ (g 65 f p).toInt ≤ (g 42 (g 50 f 0).toNatClampNeg 0).toInt ∧ 0 ≤ (g 60 f p).toInt ∧ (g 60 f p).toInt ≤ (g 11 0 0).toInt := by
  obtain ⟨-, -, -, -, -, -, -, -, -, hP, -⟩ := h
  rcases hP f p with c | c
  · exact absurd c.1 q
  · exact c
theorem grpE {n : Nat} {g m : vS} (h : vInv n g m) {f : Nat} (hf : (f : Int) < (g 2 0 0).toInt) : 0 ≤ (g 50 f 0).toInt ∧ (g 50 f 0).toInt < (g 1 0 0).toInt := by
  obtain ⟨-, -, -, -, -, -, -, ⟨-, -, -, f4, f5⟩, -⟩ := h
  exact ⟨(f5 f).1, (f4 f hf).2.2.2.1⟩
theorem keyE {n : Nat} {g m : vS} (h : vInv n g m) {k u x y : Int32} (h0 : 0 ≤ x.toInt) (h1 : x.toInt < (g 2 0 0).toInt) (hp : g 106 x.toNatClampNeg y.toNatClampNeg ≠ 0) (u0 : 0 ≤ u.toInt) (u6 : u.toNatClampNeg < 6) : V_X12_reads (S_X12_isWrong m k) u x y = V_X11_isKeyKnown g u x.toNatClampNeg y.toNatClampNeg := by
  have a := tnI h0
  have q := grpE h (f := x.toNatClampNeg) (by omega)
  have r := (rPs h hp).2.2.2.2.2.2.2.2.1
  have e55 := vE_ h (a := 50) (b := 55) (by decide)
  show V_X12_reads (s3 m 1 0 0 k) u x y = _
  unfold V_X12_reads V_X11_isKeyKnown
  rw [s3_k (by decide), s3_k (by decide), s3_k (by decide), e55, r]
  have e : V_X12_latest (s3 m 1 0 0 k) (g 50 x.toNatClampNeg 0) u = V_X3_latestKnownTo g (g 50 x.toNatClampNeg 0).toNatClampNeg u := (lat_w (m := m) (k := k)).trans (latE h q u0 u6)
  simp only [e]
theorem isNT {n : Nat} {g m : vS} (h : vInv n g m) (u a x : Int32) : (X_X11_needUser g u = 1 ∧ V_X12_isNotThere m (V_X12_isUser m u) a x = 1 ∧ S_X12_isNotThere m (V_X12_isUser m u) a x = s3 m 1 0 0 1) ∨ (X_X11_needUser g u = 0 ∧ V_X12_isUser m u = 1 ∧ 0 ≤ u.toInt ∧ u.toNatClampNeg < 6) := by
  rcases nU h u with ⟨a1, a2, a3, a4, a5, a6, a7⟩ | ⟨a1, a2, -⟩
  · exact Or.inr ⟨a1, a2, a3, a5⟩
  · exact Or.inl ⟨a1, by rw [a2]; exact notThere0.1, by rw [a2]; exact notThere0.2⟩
theorem pz_writes : PZ_writes vInv := by
  intro n g m h hn x y
  rcases nF h x with ⟨a1, a2, a3, a4, a5, a6, a7⟩ | ⟨a1, a2, -⟩
  · rcases nPn (g := g) (m := m) y with ⟨b1, b2, b3, b4, b5, b6, b7⟩ | ⟨b1, b2, -⟩
    · have c1 : ¬ y < 0 := by rw [i32_lt, i00]; omega
      have c2 : ¬ 8 ≤ y := by rw [i32_le, show (8 : Int32).toInt = 8 from by decide]; omega
      refine pz_ro h (k := 0) ?_ ?_ ?_
      · simp only [S_X12_writes, a2, b2, S_X12_isWrong, ↓reduceIte, d10]
      · simp only [X_X11_writes, a1, b1, ↓reduceIte]; rfl
      · intro _
        simp only [V_X11_writes, V_X12_writes, a1, a2, b1, b2, V_X4_writesOf, c1, c2, ↓reduceIte, d10]
        have hP := h.2.2.2.2.2.2.2.2.2.1
        rcases hP x.toNatClampNeg y.toNatClampNeg with ⟨p1, p2⟩ | ⟨p0, p1, p2, -⟩
        · rw [if_pos p1, p2]
        · rw [if_neg p1, p2]
    · refine pz_ro h (k := 2) ?_ ?_ ?_
      · simp only [S_X12_writes, a2, b2, S_X12_isWrong, ↓reduceIte, d10]
      · simp only [X_X11_writes, a1, b1, ↓reduceIte, n20]; rfl
      · intro q; exact absurd q (by simp only [X_X11_writes, a1, b1, ↓reduceIte, n20]; decide)
  · refine pz_ro h (k := 1) ?_ ?_ ?_
    · simp only [S_X12_writes, a2, S_X12_isWrong, ↓reduceIte]
    · simp only [X_X11_writes, a1, ↓reduceIte, n10]; rfl
    · intro q; exact absurd q (by simp only [X_X11_writes, a1, ↓reduceIte, n10]; decide)
theorem pz_cipher : PZ_cipher vInv := by
  intro n g m h hn x y
  rcases nPt h x y with ⟨-, p1, p2, p3, -, -, -, -, -, -, -, -, pt⟩ | ⟨-, p1, p2, p3⟩ | ⟨-, p1, p2, p3⟩
  · have r := rPs h pt
    refine pz_ro h (k := 0) p3 ?_ ?_
    · simp only [X_X11_cipher, p1, ↓reduceIte]; rfl
    · intro _; simp only [V_X11_cipher, V_X12_cipher, p1, p2, ↓reduceIte]; exact r.2.2.2.2.2.2.1
  · refine pz_ro h (k := 1) p3 ?_ ?_
    · simp only [X_X11_cipher, p1, ↓reduceIte, n10]; rfl
    · intro q; exact absurd q (by simp only [X_X11_cipher, p1, ↓reduceIte, n10]; decide)
  · refine pz_ro h (k := 2) p3 ?_ ?_
    · simp only [X_X11_cipher, p1, ↓reduceIte, n20]; rfl
    · intro q; exact absurd q (by simp only [X_X11_cipher, p1, ↓reduceIte, n20]; decide)
theorem pz_version : PZ_version vInv := by
  intro n g m h hn x y
  rcases nPt h x y with ⟨-, p1, p2, p3, -, -, -, -, -, -, -, -, pt⟩ | ⟨-, p1, p2, p3⟩ | ⟨-, p1, p2, p3⟩
  · have r := rPs h pt
    refine pz_ro h (k := 0) p3 ?_ ?_
    · simp only [X_X11_version, p1, ↓reduceIte]; rfl
    · intro _; simp only [V_X11_version, V_X12_version, p1, p2, ↓reduceIte]; exact r.2.2.2.2.1
  · refine pz_ro h (k := 1) p3 ?_ ?_
    · simp only [X_X11_version, p1, ↓reduceIte, n10]; rfl
    · intro q; exact absurd q (by simp only [X_X11_version, p1, ↓reduceIte, n10]; decide)
  · refine pz_ro h (k := 2) p3 ?_ ?_
    · simp only [X_X11_version, p1, ↓reduceIte, n20]; rfl
    · intro q; exact absurd q (by simp only [X_X11_version, p1, ↓reduceIte, n20]; decide)
theorem pz_canRead : PZ_canRead vInv := by
  intro n g m h hn u x y
  rcases isNT h u x y with ⟨u1, u2, u3⟩ | ⟨u1, u2, u3, u4⟩
  · refine pz_ro h (k := 1) (by unfold S_X12_canRead; exact u3) ?_ ?_
    · simp only [X_X11_canRead, u1, ↓reduceIte, n10]; rfl
    · intro q; exact absurd q (by simp only [X_X11_canRead, u1, ↓reduceIte, n10]; decide)
  · rcases nPt h x y with ⟨p0, p1, p2, p3, x0, x1, x2, x3, y0, y1, y2, y3, pt⟩ | ⟨p0, p1, p2, p3⟩ | ⟨p0, p1, p2, p3⟩
    · refine pz_ro h (k := 0) (by unfold S_X12_canRead; rw [u2]; exact p3) ?_ ?_
      · simp only [X_X11_canRead, u1, p0, p1, ↓reduceIte]; rfl
      · intro _
        have e : V_X12_reads (S_X12_isNotThere m 1 x y) u x y = V_X11_isKeyKnown g u x.toNatClampNeg y.toNatClampNeg := by rw [p3]; exact keyE h (k := 0) x0 x1 pt u3 u4
        simp only [V_X11_canRead, V_X12_canRead, u1, u2, p0, p1, p2, e, ↓reduceIte]
        have b : ∀ z : Int32, (z = 0 ∨ z = 1) → z = if z = 0 then 0 else 1 := fun z hz => by rcases hz with rfl | rfl <;> rfl
        refine b _ ?_
        unfold V_X11_isKeyKnown
        split
        · exact Or.inl rfl
        · exact Or.inr rfl
    · have e : X_X11_canRead g u x y = 1 := by
        unfold X_X11_canRead
        rw [if_pos u1]
        rcases p0 with p0 | p0
        · rw [if_pos p0, if_neg (by rw [p1]; decide), p1]
        · rw [if_neg (by rw [p0]; decide), p0]
      refine pz_ro h (k := 1) (by unfold S_X12_canRead; rw [u2]; exact p3) ?_ ?_
      · rw [e]; rfl
      · intro q; rw [e] at q; exact absurd q (by decide)
    · refine pz_ro h (k := 2) (by unfold S_X12_canRead; rw [u2]; exact p3) ?_ ?_
      · simp only [X_X11_canRead, u1, p0, p1, ↓reduceIte, n20]; rfl
      · intro q; exact absurd q (by simp only [X_X11_canRead, u1, p0, p1, ↓reduceIte, n20]; decide)
theorem s3_ss {g : vS} {k i j : Nat} {v w : Int32} : s3 (s3 g k i j v) k i j w = s3 g k i j w := funext fun a => funext fun b => funext fun c => by
  unfold s3
  by_cases q : a = k ∧ b = i ∧ c = j
  · rw [if_pos q, if_pos q]
  · rw [if_neg q, if_neg q, if_neg q]
theorem pz_read : PZ_read vInv := by
  intro n g m h hn u x y
  rcases isNT h u x y with ⟨u1, u2, u3⟩ | ⟨u1, u2, u3, u4⟩
  · refine pz_ro h (k := 1) (by simp only [S_X12_read, u2, d10, ↓reduceIte]; exact u3) ?_ ?_
    · simp only [X_X11_read, u1, ↓reduceIte, n10]; rfl
    · intro q; exact absurd q (by simp only [X_X11_read, u1, ↓reduceIte, n10]; decide)
  · rcases nPt h x y with ⟨p0, p1, p2, p3, x0, x1, x2, x3, y0, y1, y2, y3, pt⟩ | ⟨p0, p1, p2, p3⟩ | ⟨p0, p1, p2, p3⟩
    · have e68 := vE_ h (a := 53) (b := 68) (by decide)
      have p4 : S_X12_isNotThere m 1 x y = S_X12_isWrong m 0 := p3
      have es := spoE h x0 x1
      have ek := keyE h (k := 0) x0 x1 pt u3 u4
      have r := rPs h pt
      by_cases c1 : g 53 x.toNatClampNeg 0 = 0
      · by_cases c2 : V_X4_isSpoiled g x.toNatClampNeg = 0
        · by_cases c3 : V_X11_isKeyKnown g u x.toNatClampNeg y.toNatClampNeg = 0
          · refine pz_ro h (k := 4) ?_ ?_ ?_
            · simp only [S_X12_read, u2, p2, p4, e68, c1, spo_w, es, c2, ek, c3, ↓reduceIte]; exact s3_ss
            · simp only [X_X11_read, u1, p0, p1, c1, c2, c3, ↓reduceIte]; rfl
            · intro q; exact absurd q (by simp only [X_X11_read, u1, p0, p1, c1, c2, c3, ↓reduceIte]; decide)
          · refine pz_ro h (k := 0) ?_ ?_ ?_
            · simp only [S_X12_read, u2, p2, p4, e68, c1, spo_w, es, c2, ek, c3, ↓reduceIte]; exact s3_ss
            · simp only [X_X11_read, u1, p0, p1, c1, c2, c3, ↓reduceIte]; rfl
            · intro _
              simp only [V_X11_read, V_X12_read, u1, u2, p0, p1, p2, p4, e68, c1, spo_w, es, c2, ek, c3, ↓reduceIte, V_X6_opened, V_X12_keyOf]
              rw [r.2.2.2.2.2.2.1, r.2.2.2.2.2.2.2.1, x2, y2]
        · refine pz_ro h (k := 3) ?_ ?_ ?_
          · simp only [S_X12_read, u2, p2, p4, e68, c1, spo_w, es, c2, ↓reduceIte]; exact s3_ss
          · simp only [X_X11_read, u1, p0, p1, c1, c2, ↓reduceIte]; rfl
          · intro q; exact absurd q (by simp only [X_X11_read, u1, p0, p1, c1, c2, ↓reduceIte]; decide)
      · refine pz_ro h (k := 3) ?_ ?_ ?_
        · simp only [S_X12_read, u2, p2, p4, e68, c1, ↓reduceIte]; exact s3_ss
        · simp only [X_X11_read, u1, p0, p1, c1, ↓reduceIte]; rfl
        · intro q; exact absurd q (by simp only [X_X11_read, u1, p0, p1, c1, ↓reduceIte]; decide)
    · have e : X_X11_read g u x y = 1 := by
        unfold X_X11_read
        rw [if_pos u1]
        rcases p0 with p0 | p0
        · rw [if_pos p0, if_neg (by rw [p1]; decide), p1]
        · rw [if_neg (by rw [p0]; decide), p0]
      refine pz_ro h (k := 1) (by simp only [S_X12_read, u2, p2, d10, ↓reduceIte]; exact p3) ?_ ?_
      · rw [e]; rfl
      · intro q; rw [e] at q; exact absurd q (by decide)
    · refine pz_ro h (k := 2) (by simp only [S_X12_read, u2, p2, d10, ↓reduceIte]; exact p3) ?_ ?_
      · simp only [X_X11_read, u1, p0, p1, ↓reduceIte, n20]; rfl
      · intro q; exact absurd q (by simp only [X_X11_read, u1, p0, p1, ↓reduceIte, n20]; decide)
