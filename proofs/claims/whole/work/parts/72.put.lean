def pG (g : vS) (f p : Nat) (y v w : Int32) : vS := S_X4_sealPart (s3 (s3 (if g 106 f p = 0 then Z_part g f p y else g) 59 f p v) 56 f p w) f p (g 11 0 0)
def pM (m : vS) (x y v : Int32) : vS := S_X12_lays (s3 m 63 x.toNatClampNeg y.toNatClampNeg (m 63 x.toNatClampNeg y.toNatClampNeg + 1)) x y v
theorem s3_o {g : vS} {k i j c i' j' : Nat} {v : Int32} (h : ¬ (c = k ∧ i' = i ∧ j' = j)) : s3 g k i j v c i' j' = g c i' j' := if_neg h
theorem Z_part_o {g : vS} {f p : Nat} {a : Int32} {c i j : Nat} (h : ¬ (c ∈ ([56, 57, 58, 59, 60, 64, 65, 67, 106] : List Nat) ∧ i = f ∧ j = p)) : Z_part g f p a c i j = g c i j := by
  have q : ∀ k ∈ ([56, 57, 58, 59, 60, 64, 65, 67, 106] : List Nat), ¬ (c = k ∧ i = f ∧ j = p) := fun k hk z => h ⟨z.1 ▸ hk, z.2⟩
  unfold Z_part
  rw [s3_o (q 106 (by decide)), s3_o (q 60 (by decide)), s3_o (q 56 (by decide)), s3_o (q 65 (by decide)), s3_o (q 57 (by decide)), s3_o (q 64 (by decide)), s3_o (q 58 (by decide)), s3_o (q 59 (by decide)), s3_o (q 67 (by decide))]
theorem seal_o {g : vS} {f p : Nat} {a : Int32} {c i j : Nat} (h : ¬ (c ∈ ([56, 57, 58, 59, 60, 64, 65, 67, 106] : List Nat) ∧ i = f ∧ j = p)) : S_X4_sealPart g f p a c i j = g c i j := by
  have q : ∀ k ∈ ([56, 57, 58, 59, 60, 64, 65, 67, 106] : List Nat), ¬ (c = k ∧ i = f ∧ j = p) := fun k hk z => h ⟨z.1 ▸ hk, z.2⟩
  unfold S_X4_sealPart
  rw [s3_o (q 58 (by decide)), s3_o (q 64 (by decide)), s3_o (q 60 (by decide)), s3_o (q 65 (by decide)), s3_o (q 57 (by decide))]
theorem pG_o {g : vS} {f p : Nat} {y v w : Int32} {c i j : Nat} (h : ¬ (c ∈ ([56, 57, 58, 59, 60, 64, 65, 67, 106] : List Nat) ∧ i = f ∧ j = p)) : pG g f p y v w c i j = g c i j := by
  have q : ∀ k ∈ ([56, 57, 58, 59, 60, 64, 65, 67, 106] : List Nat), ¬ (c = k ∧ i = f ∧ j = p) := fun k hk z => h ⟨z.1 ▸ hk, z.2⟩
  unfold pG
  rw [seal_o h, s3_o (q 56 (by decide)), s3_o (q 59 (by decide))]
  split
  · exact Z_part_o h
  · rfl
theorem lays_o {m : vS} {x y z : Int32} {c i j : Nat} (h : ¬ (c ∈ ([61, 63, 65, 67] : List Nat) ∧ i = x.toNatClampNeg ∧ j = y.toNatClampNeg)) : S_X12_lays m x y z c i j = m c i j := by
  have q : ∀ k ∈ ([61, 63, 65, 67] : List Nat), ¬ (c = k ∧ i = x.toNatClampNeg ∧ j = y.toNatClampNeg) := fun k hk z => h ⟨z.1 ▸ hk, z.2⟩
  unfold S_X12_lays
  rw [s3_o (q 65 (by decide)), s3_o (q 61 (by decide)), s3_o (q 67 (by decide))]
theorem pM_o {m : vS} {x y v : Int32} {c i j : Nat} (h : ¬ (c ∈ ([61, 63, 65, 67] : List Nat) ∧ i = x.toNatClampNeg ∧ j = y.toNatClampNeg)) : pM m x y v c i j = m c i j := by
  unfold pM
  rw [lays_o h, s3_o (fun z => h ⟨by rw [z.1]; decide, z.2⟩)]
theorem seal_r {q : vS} {f p : Nat} {a : Int32} : S_X4_sealPart q f p a 57 f p = q 51 f 0 ∧ S_X4_sealPart q f p a 65 f p = q 61 f 0 ∧ S_X4_sealPart q f p a 60 f p = a ∧ S_X4_sealPart q f p a 64 f p = pMix (q 62 f 0) (q 67 f p) ∧ S_X4_sealPart q f p a 58 f p = pSeal (q 59 f p) (pMix (q 62 f 0) (q 67 f p)) ∧ S_X4_sealPart q f p a 59 f p = q 59 f p ∧ S_X4_sealPart q f p a 56 f p = q 56 f p ∧ S_X4_sealPart q f p a 67 f p = q 67 f p ∧ S_X4_sealPart q f p a 106 f p = q 106 f p := by
  unfold S_X4_sealPart
  refine ⟨?_, ?_, ?_, ?_, ?_, ?_, ?_, ?_, ?_⟩
  · rw [s3_k (by decide), s3_k (by decide), s3_k (by decide), s3_k (by decide), s3_s]
  · rw [s3_k (by decide), s3_k (by decide), s3_k (by decide), s3_s]
  · rw [s3_k (by decide), s3_k (by decide), s3_s]
  · rw [s3_k (by decide), s3_s]
  · rw [s3_s]
  · rw [s3_k (by decide), s3_k (by decide), s3_k (by decide), s3_k (by decide), s3_k (by decide)]
  · rw [s3_k (by decide), s3_k (by decide), s3_k (by decide), s3_k (by decide), s3_k (by decide)]
  · rw [s3_k (by decide), s3_k (by decide), s3_k (by decide), s3_k (by decide), s3_k (by decide)]
  · rw [s3_k (by decide), s3_k (by decide), s3_k (by decide), s3_k (by decide), s3_k (by decide)]
theorem lays_r {q : vS} {x y v : Int32} : S_X12_lays q x y v 67 x.toNatClampNeg y.toNatClampNeg = v ∧ S_X12_lays q x y v 61 x.toNatClampNeg y.toNatClampNeg = q 56 x.toNatClampNeg 0 ∧ S_X12_lays q x y v 65 x.toNatClampNeg y.toNatClampNeg = pSeal v (pMix (pMix (pMix 4 x) (q 56 x.toNatClampNeg 0)) y) ∧ S_X12_lays q x y v 63 x.toNatClampNeg y.toNatClampNeg = q 63 x.toNatClampNeg y.toNatClampNeg := by
  unfold S_X12_lays V_X12_keyOf
  refine ⟨?_, ?_, ?_, ?_⟩
  · rw [s3_k (by decide), s3_k (by decide), s3_s]
  · rw [s3_k (by decide), s3_s]
  · rw [s3_s]
  · rw [s3_k (by decide), s3_k (by decide), s3_k (by decide)]
theorem m63b {n : Nat} {g m : vS} (h : vInv n g m) {f p : Nat} : 0 ≤ (m 63 f p).toInt ∧ (m 63 f p).toInt ≤ 10 * (n : Int) ∧ (g 106 f p = 0 → m 63 f p = 0) ∧ (g 106 f p ≠ 0 → g 56 f p = m 63 f p ∧ g 67 f p = nI p) := by
  obtain ⟨-, -, -, -, -, -, -, -, -, hP, -, -, -, -, -, -, -, -, -, -, hN⟩ := h
  have n2 := hN.2.1 f p
  rcases hP f p with ⟨a, b⟩ | ⟨-, a, b, c, -, -, -, -, -, d, -⟩
  · exact ⟨by rw [b]; decide, n2, fun _ => b, fun z => absurd a z⟩
  · exact ⟨by rw [← b]; omega, n2, fun z => absurd z a, fun _ => ⟨b, d⟩⟩
theorem put_core {n : Nat} {g m : vS} {x y v : Int32} (h : vInv n g m) (hn : n ≤ 100001) (h11 : (g 11 0 0).toInt ≤ 512) (x0 : 0 ≤ x.toInt) (x1 : x.toInt < (g 2 0 0).toInt) (y0 : 0 ≤ y.toInt) (y1 : y.toInt < 8) (h61 : g 61 x.toNatClampNeg 0 = g 42 (g 50 x.toNatClampNeg 0).toNatClampNeg 0)
    (hq : g 106 x.toNatClampNeg y.toNatClampNeg = 0 → (V_X11_partsOf g (g 50 x.toNatClampNeg 0).toNatClampNeg).toInt < (g 41 (g 50 x.toNatClampNeg 0).toNatClampNeg 0).toInt) :
    vInv (n + 1) (pG g x.toNatClampNeg y.toNatClampNeg y v (m 63 x.toNatClampNeg y.toNatClampNeg + 1)) (pM m x y v) ∧ pG g x.toNatClampNeg y.toNatClampNeg y v (m 63 x.toNatClampNeg y.toNatClampNeg + 1) 58 x.toNatClampNeg y.toNatClampNeg = pM m x y v 65 x.toNatClampNeg y.toNatClampNeg ∧ pM m x y v 63 x.toNatClampNeg y.toNatClampNeg = m 63 x.toNatClampNeg y.toNatClampNeg + 1 := by
  have ax := tnI x0
  have ex := q_nI x0
  have ay := tnI y0
  have ey := q_nI y0
  obtain ⟨b1, b2, b3, b4⟩ := m63b h (f := x.toNatClampNeg) (p := y.toNatClampNeg)
  have e56 := vE_ h (a := 51) (b := 56) (by decide)
  have F : g 62 x.toNatClampNeg 0 = pMix (pMix 4 x) (g 51 x.toNatClampNeg 0) := by
    obtain ⟨-, -, -, -, -, -, -, ⟨-, -, -, f4, -⟩, -⟩ := h
    rw [(f4 _ (by omega)).2.2.1, ex]
  have e1 : (m 63 x.toNatClampNeg y.toNatClampNeg + 1).toInt = (m 63 x.toNatClampNeg y.toNatClampNeg).toInt + 1 := q_add1 (by omega)
  have S := fun q => seal_r (q := q) (f := x.toNatClampNeg) (p := y.toNatClampNeg) (a := g 11 0 0)
  have M := lays_r (q := s3 m 63 x.toNatClampNeg y.toNatClampNeg (m 63 x.toNatClampNeg y.toNatClampNeg + 1)) (x := x) (y := y) (v := v)
  have m56 : s3 m 63 x.toNatClampNeg y.toNatClampNeg (m 63 x.toNatClampNeg y.toNatClampNeg + 1) 56 x.toNatClampNeg 0 = g 51 x.toNatClampNeg 0 := (s3_k (by decide)).trans (e56 _ _)
  rw [m56] at M
  -- the part as it lies before it is sealed
  have Q : ∃ q, q = s3 (s3 (if g 106 x.toNatClampNeg y.toNatClampNeg = 0 then Z_part g x.toNatClampNeg y.toNatClampNeg y else g) 59 x.toNatClampNeg y.toNatClampNeg v) 56 x.toNatClampNeg y.toNatClampNeg (m 63 x.toNatClampNeg y.toNatClampNeg + 1) ∧ q 51 x.toNatClampNeg 0 = g 51 x.toNatClampNeg 0 ∧ q 61 x.toNatClampNeg 0 = g 61 x.toNatClampNeg 0 ∧ q 62 x.toNatClampNeg 0 = g 62 x.toNatClampNeg 0 ∧ q 67 x.toNatClampNeg y.toNatClampNeg = y ∧ q 59 x.toNatClampNeg y.toNatClampNeg = v ∧ q 56 x.toNatClampNeg y.toNatClampNeg = m 63 x.toNatClampNeg y.toNatClampNeg + 1 ∧ q 106 x.toNatClampNeg y.toNatClampNeg ≠ 0 := by
    refine ⟨_, rfl, ?_, ?_, ?_, ?_, ?_, ?_, ?_⟩
    · rw [s3_k (by decide), s3_k (by decide)]; split
      · exact Z_part_o (fun z => absurd z.1 (by decide))
      · rfl
    · rw [s3_k (by decide), s3_k (by decide)]; split
      · exact Z_part_o (fun z => absurd z.1 (by decide))
      · rfl
    · rw [s3_k (by decide), s3_k (by decide)]; split
      · exact Z_part_o (fun z => absurd z.1 (by decide))
      · rfl
    · rw [s3_k (by decide), s3_k (by decide)]
      by_cases d : g 106 x.toNatClampNeg y.toNatClampNeg = 0
      · rw [if_pos d]
        unfold Z_part
        rw [s3_k (by decide), s3_k (by decide), s3_k (by decide), s3_k (by decide), s3_k (by decide), s3_k (by decide), s3_k (by decide), s3_k (by decide), s3_s]
      · rw [if_neg d, (b4 d).2, ey]
    · rw [s3_k (by decide), s3_s]
    · rw [s3_s]
    · rw [s3_k (by decide), s3_k (by decide)]
      by_cases d : g 106 x.toNatClampNeg y.toNatClampNeg = 0
      · rw [if_pos d]
        unfold Z_part
        rw [s3_s]; decide
      · rw [if_neg d]; exact d
  obtain ⟨q, hq0, q1, q2, q3, q4, q5, q6, q7⟩ := Q
  obtain ⟨s1, s2, s3', s4, s5, s6, s7, s8, s9⟩ := S q
  have pe : pG g x.toNatClampNeg y.toNatClampNeg y v (m 63 x.toNatClampNeg y.toNatClampNeg + 1) = S_X4_sealPart q x.toNatClampNeg y.toNatClampNeg (g 11 0 0) := by rw [hq0]; rfl
  have me : pM m x y v = S_X12_lays (s3 m 63 x.toNatClampNeg y.toNatClampNeg (m 63 x.toNatClampNeg y.toNatClampNeg + 1)) x y v := rfl
  have o1 : ∀ c i j, ¬ (c ∈ ([56, 57, 58, 59, 60, 64, 65, 67, 106] : List Nat) ∧ i = x.toNatClampNeg ∧ j = y.toNatClampNeg) → pG g x.toNatClampNeg y.toNatClampNeg y v (m 63 x.toNatClampNeg y.toNatClampNeg + 1) c i j = g c i j := fun c i j hc => pG_o hc
  have o2 : ∀ c i j, ¬ (c ∈ ([61, 63, 65, 67] : List Nat) ∧ i = x.toNatClampNeg ∧ j = y.toNatClampNeg) → pM m x y v c i j = m c i j := fun c i j hc => pM_o hc
  have r63 : pM m x y v 63 x.toNatClampNeg y.toNatClampNeg = m 63 x.toNatClampNeg y.toNatClampNeg + 1 := by rw [me, M.2.2.2, s3_s]
  have r58 : pG g x.toNatClampNeg y.toNatClampNeg y v (m 63 x.toNatClampNeg y.toNatClampNeg + 1) 58 x.toNatClampNeg y.toNatClampNeg = pM m x y v 65 x.toNatClampNeg y.toNatClampNeg := by rw [pe, me, s5, M.2.2.1, q3, q4, q5, F]
  refine ⟨st_part h h11 (by omega) (by omega) h61 o1 o2 ?_ ?_ ?_ ?_ ?_ ?_ r58 ?_ ?_ ?_ ?_ hq ?_, r58, r63⟩
  · rw [pe, s9]; exact q7
  · rw [pe, s7, q6, r63]
  · rw [pe, s7, q6, e1]; omega
  · rw [pe, s1, q1]
  · rw [me, M.2.1]
  · rw [pe, s6, q5, me, M.1]
  · rw [pe, s4, q3, q4, ey]
  · rw [pe, s2, q2]
  · rw [pe, s8, q4, ey]
  · rw [pe, s3']
  · rw [r63, e1]; omega
theorem turnKey_k {g : vS} {f c i j : Nat} (hc : c ∉ ([51, 61, 62] : List Nat)) : S_X4_turnKey g f c i j = g c i j := by
  have q : ∀ k ∈ ([51, 61, 62] : List Nat), c ≠ k := fun k hk e => hc (e ▸ hk)
  unfold S_X4_turnKey
  rw [s3_k (q 62 (by decide)), s3_k (q 61 (by decide)), s3_k (q 51 (by decide))]
theorem isSp_k {g G : vS} {f : Nat} (h : ∀ c ∈ ([52, 63, 106, 58] : List Nat), ∀ i j, G c i j = g c i j) : V_X4_isSpoiled G f = V_X4_isSpoiled g f := by
  have L : ∀ (k i : Nat) (y : Int32), VL_X4_markOfParts_7 G f k i y = VL_X4_markOfParts_7 g f k i y := by
    intro k
    induction k with
    | zero => intro i y; rfl
    | succ k ih => intro i y; unfold VL_X4_markOfParts_7; simp only [h 106 (by decide), h 58 (by decide), ih]
  unfold V_X4_isSpoiled V_X4_markOfParts
  rw [h 52 (by decide), h 63 (by decide), L]
/-- the class' put, from the state where the key is the epoch's -/
theorem putS {g g' m : vS} {x y v : Int32} (y0 : 0 ≤ y.toInt) (y1 : y.toInt < 8) (hx : g 66 x.toNatClampNeg 0 = x) (l0 : 0 ≤ (g 4 0 0).toInt) (l1 : (g 4 0 0).toInt < 300) (b3 : g 106 x.toNatClampNeg y.toNatClampNeg = 0 → m 63 x.toNatClampNeg y.toNatClampNeg = 0) (b4 : g 106 x.toNatClampNeg y.toNatClampNeg ≠ 0 → g 56 x.toNatClampNeg y.toNatClampNeg = m 63 x.toNatClampNeg y.toNatClampNeg)
    (hg : g' = if g 61 x.toNatClampNeg 0 = g 42 (g 50 x.toNatClampNeg 0).toNatClampNeg 0 then g else S_X4_turnKey g x.toNatClampNeg) :
    S_X11_put g x.toNatClampNeg y v = s3 (s3 (s3 (pG g' x.toNatClampNeg y.toNatClampNeg y v (m 63 x.toNatClampNeg y.toNatClampNeg + 1)) 52 x.toNatClampNeg 0 (V_X4_markOfParts (pG g' x.toNatClampNeg y.toNatClampNeg y v (m 63 x.toNatClampNeg y.toNatClampNeg + 1)) x.toNatClampNeg)) 80 (g 4 0 0).toNatClampNeg 0 (pMix (8 * x + y) (pG g' x.toNatClampNeg y.toNatClampNeg y v (m 63 x.toNatClampNeg y.toNatClampNeg + 1) 58 x.toNatClampNeg y.toNatClampNeg))) 4 0 0 (g 4 0 0 + 1) ∧ V_X11_put g x.toNatClampNeg y v = g' 51 x.toNatClampNeg 0 := by
  have g4 : g' 4 0 0 = g 4 0 0 := by
    rw [hg]; split
    · rfl
    · exact turnKey_k (by decide)
  have g11 : g' 11 0 0 = g 11 0 0 := by
    rw [hg]; split
    · rfl
    · exact turnKey_k (by decide)
  have c1 : ¬ y < 0 := by rw [i32_lt, i00]; omega
  have c2 : y < 8 := by rw [i32_lt, show (8 : Int32).toInt = 8 from by decide]; exact y1
  have z56 : ∀ G : vS, Z_part G x.toNatClampNeg y.toNatClampNeg y 56 x.toNatClampNeg y.toNatClampNeg = 0 := fun G => by
    unfold Z_part
    rw [s3_k (by decide), s3_k (by decide), s3_s]
  have eq : S_X4_put g x.toNatClampNeg y v (g 11 0 0) = s3 (pG g' x.toNatClampNeg y.toNatClampNeg y v (m 63 x.toNatClampNeg y.toNatClampNeg + 1)) 52 x.toNatClampNeg 0 (V_X4_markOfParts (pG g' x.toNatClampNeg y.toNatClampNeg y v (m 63 x.toNatClampNeg y.toNatClampNeg + 1)) x.toNatClampNeg) ∧ V_X4_put g x.toNatClampNeg y v (g 11 0 0) = pG g' x.toNatClampNeg y.toNatClampNeg y v (m 63 x.toNatClampNeg y.toNatClampNeg + 1) 58 x.toNatClampNeg y.toNatClampNeg := by
    unfold S_X4_put V_X4_put pG
    rw [if_neg c1, if_pos c2, if_neg c1, if_pos c2, g11]
    by_cases t : g 61 x.toNatClampNeg 0 = g 42 (g 50 x.toNatClampNeg 0).toNatClampNeg 0
    · rw [if_pos t] at hg
      subst hg
      rw [if_pos t, if_pos t]
      by_cases d : g' 106 x.toNatClampNeg y.toNatClampNeg = 0
      · rw [if_pos d, if_pos d, if_pos d, z56, b3 d]; exact ⟨rfl, rfl⟩
      · rw [if_neg d, if_neg d, if_neg d, b4 d]; exact ⟨rfl, rfl⟩
    · rw [if_neg t] at hg
      subst hg
      rw [if_neg t, if_neg t, turnKey_k (c := 106) (by decide)]
      by_cases d : g 106 x.toNatClampNeg y.toNatClampNeg = 0
      · rw [if_pos d, if_pos d, if_pos d, z56, b3 d]; exact ⟨rfl, rfl⟩
      · rw [if_neg d, if_neg d, if_neg d, b4 d]; exact ⟨rfl, rfl⟩
  unfold S_X11_put V_X11_put V_X2_moment
  rw [eq.1, eq.2, hx]
  refine ⟨appE2 (L := g 4 0 0) ?_ l0 l1, ?_⟩
  · rw [s3_k (by decide), pG_o (fun z => absurd z.1 (by decide)), g4]
  · rw [s3_k (by decide), pG_o (fun z => absurd z.1 (by decide))]
theorem put_ok {n : Nat} {g m : vS} {x y v : Int32} (h : vInv n g m) (hn : n ≤ 100000) (h11 : (g 11 0 0).toInt ≤ 512) (x0 : 0 ≤ x.toInt) (x1 : x.toInt < (g 2 0 0).toInt) (y0 : 0 ≤ y.toInt) (y1 : y.toInt < 8) (l1 : (g 4 0 0).toInt < 300)
    (hq : g 106 x.toNatClampNeg y.toNatClampNeg = 0 → (V_X11_partsOf g (g 50 x.toNatClampNeg 0).toNatClampNeg).toInt < (g 41 (g 50 x.toNatClampNeg 0).toNatClampNeg 0).toInt) :
    vInv (n + 2) (S_X11_put g x.toNatClampNeg y v) (S_X12_puts m x y v) ∧ V_X11_put g x.toNatClampNeg y v = V_X12_puts m x y v ∧
    (∀ c, c ∉ ([51, 61, 62, 52, 56, 57, 58, 59, 60, 64, 65, 67, 106, 80, 4] : List Nat) → ∀ i j, S_X11_put g x.toNatClampNeg y v c i j = g c i j) ∧ (∀ c, c ∉ ([56, 59, 13, 61, 63, 65, 67, 57, 73, 11] : List Nat) → ∀ i j, S_X12_puts m x y v c i j = m c i j) ∧
    (∀ f, (S_X11_put g x.toNatClampNeg y v 51 f 0).toInt ≤ (g 51 f 0).toInt + 1) ∧ (∀ f p, (S_X12_puts m x y v 63 f p).toInt ≤ (m 63 f p).toInt + 1) ∧ (∀ f, (m 13 f 0).toNatClampNeg ≤ (S_X12_puts m x y v 13 f 0).toNatClampNeg) := by
  have ax := tnI x0
  have e11 := eL h
  have bl := bL h
  have e56 := vE_ h (a := 51) (b := 56) (by decide)
  have e55 := vE_ h (a := 50) (b := 55) (by decide)
  have e50 := vE_ h (a := 42) (b := 50) (by decide)
  obtain ⟨b1, b2, b3, b4⟩ := m63b h (f := x.toNatClampNeg) (p := y.toNatClampNeg)
  have hx : g 66 x.toNatClampNeg 0 = x ∧ g 61 x.toNatClampNeg 0 = m 59 x.toNatClampNeg (g 51 x.toNatClampNeg 0).toNatClampNeg := by
    obtain ⟨-, -, -, -, -, -, -, ⟨-, -, -, f4, -⟩, -⟩ := h
    have q := f4 x.toNatClampNeg (by omega)
    exact ⟨by rw [q.1, q_nI x0], q.2.2.2.2.1⟩
  have n51 : (g 51 x.toNatClampNeg 0).toInt < 2147483647 := by
    obtain ⟨-, -, -, -, -, -, -, -, -, -, -, -, -, -, -, -, -, -, -, -, hN⟩ := h
    have := hN.1 x.toNatClampNeg
    omega
  -- from the state where the key is the epoch's
  have core : ∀ (g' m' : vS) (N : Nat), N ≤ n + 1 → vInv N g' m' → g' 61 x.toNatClampNeg 0 = g' 42 (g' 50 x.toNatClampNeg 0).toNatClampNeg 0 → (∀ c, c ∉ ([51, 61, 62] : List Nat) → ∀ i j, g' c i j = g c i j) → (∀ c, c ∉ ([56, 59, 13] : List Nat) → ∀ i j, m' c i j = m c i j) →
      (g' = if g 61 x.toNatClampNeg 0 = g 42 (g 50 x.toNatClampNeg 0).toNatClampNeg 0 then g else S_X4_turnKey g x.toNatClampNeg) →
      S_X12_puts m x y v = S_X12_adds (s3 (pM m' x y v) 57 x.toNatClampNeg 0 (V_X12_markOf (pM m' x y v) x)) (pMix (8 * x + y) (pM m' x y v 65 x.toNatClampNeg y.toNatClampNeg)) → V_X12_puts m x y v = m' 56 x.toNatClampNeg 0 → (∀ f, (g' 51 f 0).toInt ≤ (g 51 f 0).toInt + 1) → (∀ f, (m 13 f 0).toNatClampNeg ≤ (m' 13 f 0).toNatClampNeg) →
      vInv (n + 2) (S_X11_put g x.toNatClampNeg y v) (S_X12_puts m x y v) ∧ V_X11_put g x.toNatClampNeg y v = V_X12_puts m x y v ∧
      (∀ c, c ∉ ([51, 61, 62, 52, 56, 57, 58, 59, 60, 64, 65, 67, 106, 80, 4] : List Nat) → ∀ i j, S_X11_put g x.toNatClampNeg y v c i j = g c i j) ∧ (∀ c, c ∉ ([56, 59, 13, 61, 63, 65, 67, 57, 73, 11] : List Nat) → ∀ i j, S_X12_puts m x y v c i j = m c i j) ∧
      (∀ f, (S_X11_put g x.toNatClampNeg y v 51 f 0).toInt ≤ (g 51 f 0).toInt + 1) ∧ (∀ f p, (S_X12_puts m x y v 63 f p).toInt ≤ (m 63 f p).toInt + 1) ∧ (∀ f, (m 13 f 0).toNatClampNeg ≤ (S_X12_puts m x y v 13 f 0).toNatClampNeg) := by
    intro g' m' N hN hI t61 kg km hg hS hV hb51 hb13
    have q' : g' 106 x.toNatClampNeg y.toNatClampNeg = 0 → (V_X11_partsOf g' (g' 50 x.toNatClampNeg 0).toNatClampNeg).toInt < (g' 41 (g' 50 x.toNatClampNeg 0).toNatClampNeg 0).toInt := by
      rw [partsOf_k (kg 2 (by decide)) (kg 105 (by decide)) (kg 48 (by decide)) (kg 50 (by decide)) (kg 106 (by decide)), kg 106 (by decide), kg 50 (by decide), kg 41 (by decide)]
      exact hq
    have e63 : m' 63 x.toNatClampNeg y.toNatClampNeg = m 63 x.toNatClampNeg y.toNatClampNeg := km 63 (by decide) _ _
    obtain ⟨c1, c2, c3⟩ := put_core (v := v) hI (by omega) (by rw [kg 11 (by decide)]; exact h11) x0 (by rw [kg 2 (by decide)]; exact x1) y0 y1 t61 q'
    rw [e63] at c1 c2 c3
    obtain ⟨p1, p2⟩ := putS (v := v) (m := m) y0 y1 hx.1 bl.1 l1 b3 (fun z => (b4 z).1) hg
    have s1 := st_mark c1 x0 (by rw [pG_o (fun z => absurd z.1 (by decide)), kg 2 (by decide)]; exact x1)
    have l4 : s3 (pG g' x.toNatClampNeg y.toNatClampNeg y v (m 63 x.toNatClampNeg y.toNatClampNeg + 1)) 52 x.toNatClampNeg 0 (V_X4_markOfParts (pG g' x.toNatClampNeg y.toNatClampNeg y v (m 63 x.toNatClampNeg y.toNatClampNeg + 1)) x.toNatClampNeg) 4 0 0 = g 4 0 0 := by
      rw [s3_k (by decide), pG_o (fun z => absurd z.1 (by decide)), kg 4 (by decide)]
    have l11 : s3 (pM m' x y v) 57 x.toNatClampNeg 0 (V_X12_markOf (pM m' x y v) x) 11 0 0 = g 4 0 0 := by
      rw [s3_k (by decide), pM_o (fun z => absurd z.1 (by decide)), km 11 (by decide), e11]
    have s2 := st_log (v := pMix (8 * x + y) (pM m' x y v 65 x.toNatClampNeg y.toNatClampNeg)) s1 l4 bl.1 l1
    rw [addsE l11] at hS
    rw [c2] at p1
    rw [hS, p1]
    refine ⟨?_, ?_, fun c hc i j => ?_, fun c hc i j => ?_, fun f => ?_, fun f p => ?_, fun f => ?_⟩
    · obtain ⟨hE, hrU, hrUz, hrD, hrG, hrGz, hrK, hrF, hrFz, hrP, hrV, hrLg, hrW, hrC, hrS, hrQ, hrT, hrX, hrH, hrJ, hrN⟩ := s2
      exact ⟨hE, hrU, hrUz, hrD, hrG, hrGz, hrK, hrF, hrFz, hrP, hrV, hrLg, hrW, hrC, hrS, hrQ, hrT, hrX, hrH, hrJ, rN_le (show N + 1 ≤ n + 2 by omega) hrN⟩
    · rw [p2, hV]; exact (vE_ hI (a := 51) (b := 56) (by decide) _ _).symm
    · have q : ∀ k ∈ ([51, 61, 62, 52, 56, 57, 58, 59, 60, 64, 65, 67, 106, 80, 4] : List Nat), c ≠ k := fun k hk e => hc (e ▸ hk)
      rw [s3_k (q 4 (by decide)), s3_k (q 80 (by decide)), s3_k (q 52 (by decide)), pG_o (fun z => hc ((by decide : ∀ c ∈ ([56, 57, 58, 59, 60, 64, 65, 67, 106] : List Nat), c ∈ ([51, 61, 62, 52, 56, 57, 58, 59, 60, 64, 65, 67, 106, 80, 4] : List Nat)) c z.1)), kg c (fun z => hc ((by decide : ∀ c ∈ ([51, 61, 62] : List Nat), c ∈ ([51, 61, 62, 52, 56, 57, 58, 59, 60, 64, 65, 67, 106, 80, 4] : List Nat)) c z))]
    · have q : ∀ k ∈ ([56, 59, 13, 61, 63, 65, 67, 57, 73, 11] : List Nat), c ≠ k := fun k hk e => hc (e ▸ hk)
      rw [s3_k (q 11 (by decide)), s3_k (q 73 (by decide)), s3_k (q 57 (by decide)), pM_o (fun z => hc ((by decide : ∀ c ∈ ([61, 63, 65, 67] : List Nat), c ∈ ([56, 59, 13, 61, 63, 65, 67, 57, 73, 11] : List Nat)) c z.1)), km c (fun z => hc ((by decide : ∀ c ∈ ([56, 59, 13] : List Nat), c ∈ ([56, 59, 13, 61, 63, 65, 67, 57, 73, 11] : List Nat)) c z))]
    · rw [s3_k (by decide), s3_k (by decide), s3_k (by decide), pG_o (fun z => absurd z.1 (by decide))]
      exact hb51 f
    · rw [s3_k (by decide), s3_k (by decide), s3_k (by decide)]
      by_cases d : f = x.toNatClampNeg ∧ p = y.toNatClampNeg
      · rw [d.1, d.2, c3, q_add1 (by omega)]; omega
      · rw [pM_o (fun z => d z.2), km 63 (by decide)]; omega
    · rw [s3_k (by decide), s3_k (by decide), s3_k (by decide), pM_o (fun z => absurd z.1 (by decide))]
      exact hb13 f
  have cond : (m 59 x.toNatClampNeg (m 56 x.toNatClampNeg 0).toNatClampNeg = m 50 (m 55 x.toNatClampNeg 0).toNatClampNeg 0) ↔ (g 61 x.toNatClampNeg 0 = g 42 (g 50 x.toNatClampNeg 0).toNatClampNeg 0) := by
    rw [e56, e55, e50, hx.2]
  by_cases t : g 61 x.toNatClampNeg 0 = g 42 (g 50 x.toNatClampNeg 0).toNatClampNeg 0
  · refine core g m n (by omega) h t (fun _ _ _ _ => rfl) (fun _ _ _ _ => rfl) (by rw [if_pos t]) ?_ ?_ (fun f => by omega) (fun f => Nat.le_refl _)
    · unfold S_X12_puts
      rw [if_pos (cond.mpr t)]
      rfl
    · unfold V_X12_puts
      rw [if_pos (cond.mpr t)]
  · obtain ⟨t1, t2, t3, t4, t5, t6, t7, t8, t9⟩ := turnsE h hn x0 x1
    have u61 : S_X4_turnKey g x.toNatClampNeg 61 x.toNatClampNeg 0 = g 42 (g 50 x.toNatClampNeg 0).toNatClampNeg 0 := (s3_k (by decide)).trans s3_s
    refine core (S_X4_turnKey g x.toNatClampNeg) (S_X12_turns m x) (n + 1) (Nat.le_refl _) (st_turn h hn x0 x1) ?_ (fun c hc i j => turnKey_k hc) t1 (by rw [if_neg t]) ?_ ?_ (fun f => ?_) (fun f => ?_)
    · rw [u61, turnKey_k (by decide), turnKey_k (by decide)]
    · unfold S_X12_puts
      rw [if_neg (fun z => t (cond.mp z))]
      unfold pM
      rw [t1 63 (by decide)]
    · unfold V_X12_puts
      rw [if_neg (fun z => t (cond.mp z))]
    · by_cases d : f = x.toNatClampNeg
      · subst d
        rw [show S_X4_turnKey g x.toNatClampNeg 51 x.toNatClampNeg 0 = g 51 x.toNatClampNeg 0 + 1 from (s3_k (by decide)).trans ((s3_k (by decide)).trans s3_s), q_add1 n51]
        omega
      · have q : ∀ (Q : vS) k v, s3 Q k x.toNatClampNeg 0 v 51 f 0 = Q 51 f 0 := fun Q k v => s3_i d
        unfold S_X4_turnKey
        rw [q, q, q]; omega
    · by_cases d : f = x.toNatClampNeg
      · subst d; exact t9
      · rw [t2 _ _ _ d]; exact Nat.le_refl _
/-- what is asked before a value is put, side by side -/
theorem openE {n : Nat} {g m : vS} (h : vInv n g m) {u x y : Int32} (x0 : 0 ≤ x.toInt) (x1 : x.toInt < (g 2 0 0).toInt) (y0 : 0 ≤ y.toInt) (y1 : y.toInt < 8) :
    (V_X11_isOpenForWriting g x.toNatClampNeg y = 1 ∧ (g 4 0 0).toInt < 300 ∧ (g 106 x.toNatClampNeg y.toNatClampNeg = 0 → (V_X11_partsOf g (g 50 x.toNatClampNeg 0).toNatClampNeg).toInt < (g 41 (g 50 x.toNatClampNeg 0).toNatClampNeg 0).toInt) ∧ V_X12_cannotWrite m u x y = if g 44 (g 50 x.toNatClampNeg 0).toNatClampNeg u.toNatClampNeg = 0 then 3 else if g 21 u.toNatClampNeg 0 = 0 then 0 else 4) ∨
    (V_X11_isOpenForWriting g x.toNatClampNeg y = 0 ∧ V_X12_cannotWrite m u x y = if g 44 (g 50 x.toNatClampNeg 0).toNatClampNeg u.toNatClampNeg = 0 then 3 else 4) := by
  have ax := tnI x0
  have ay := tnI y0
  have e52 := vE_ h (a := 44) (b := 52) (by decide)
  have e55 := vE_ h (a := 50) (b := 55) (by decide)
  have e49 := vE_ h (a := 41) (b := 49) (by decide)
  have e47 := vE_ h (a := 21) (b := 47) (by decide)
  have e68 := vE_ h (a := 53) (b := 68) (by decide)
  have gr := grpE h (f := x.toNatClampNeg) (by omega)
  have pE := partsE h gr.1 gr.2
  have sE := spoE h x0 x1
  obtain ⟨b1, b2, b3, b4⟩ := m63b h (f := x.toNatClampNeg) (p := y.toNatClampNeg)
  have b5 : g 106 x.toNatClampNeg y.toNatClampNeg ≠ 0 → m 63 x.toNatClampNeg y.toNatClampNeg ≠ 0 := fun z q => by
    have r := (rPs h z).2.2
    rw [r.1, q] at r
    exact absurd r.2.1 (by decide)
  have c1 : ¬ y < 0 := by rw [i32_lt, i00]; omega
  have c2 : ¬ 8 ≤ y := by rw [i32_le, show (8 : Int32).toInt = 8 from by decide]; omega
  have lq : ∀ a b : Int32, (¬ a ≤ b) ↔ b < a := fun a b => by rw [i32_le, i32_lt]; omega
  unfold V_X11_isOpenForWriting V_X12_cannotWrite
  rw [e55, e52, e49, e47, e68, sE, pE, if_neg c1, if_neg c2]
  rcases fullE h with ⟨d1, d2, d3, d4⟩ | ⟨d1, d2⟩
  · rw [if_pos d1, if_pos d2]
    by_cases t : g 53 x.toNatClampNeg 0 = 0
    · rw [if_pos t, if_pos t]
      by_cases s : V_X4_isSpoiled g x.toNatClampNeg = 0
      · rw [if_pos s, if_pos s]
        by_cases p : g 106 x.toNatClampNeg y.toNatClampNeg = 0
        · rw [if_pos p, if_pos (b3 p)]
          by_cases k : g 41 (g 50 x.toNatClampNeg 0).toNatClampNeg 0 ≤ V_X11_partsOf g (g 50 x.toNatClampNeg 0).toNatClampNeg
          · rw [if_pos k, if_neg (fun z => (lq _ _).mpr z k)]
            exact Or.inr ⟨rfl, rfl⟩
          · rw [if_neg k, if_pos ((lq _ _).mp k)]
            exact Or.inl ⟨rfl, d4, fun _ => i32_lt.mp ((lq _ _).mp k), rfl⟩
        · rw [if_neg p, if_neg (b5 p)]
          exact Or.inl ⟨rfl, d4, fun z => absurd z p, rfl⟩
      · rw [if_neg s, if_neg s, ite_self, ite_self, ite_self]
        exact Or.inr ⟨rfl, rfl⟩
    · rw [if_neg t, if_neg t, ite_self, ite_self, ite_self]
      exact Or.inr ⟨rfl, rfl⟩
  · have d5 : ¬ V_X5_isFull g = 0 := by rw [d1]; decide
    have d6 : ¬ V_X12_isFull m = 0 := by rw [d2]; decide
    rw [if_neg d5, if_neg d6]
    simp only [ite_self]
    refine Or.inr ⟨?_, ?_⟩ <;> first | rfl | trivial
theorem vPb_mono {m M : vS} (h : ∀ f, (m 13 f 0).toNatClampNeg ≤ (M 13 f 0).toNatClampNeg) : vPb m ≤ vPb M := by
  have L : ∀ k, vPs m k ≤ vPs M k := by
    intro k
    induction k with
    | zero => exact Nat.le_refl _
    | succ k ih =>
      have a := h k
      show vPs m k + _ ≤ vPs M k + _
      omega
  exact L 20
/-- the relation again, a call more, where versions and writes went up by little -/
theorem vInv_fin {n N : Nat} {G M : vS} (h : vInv N G M) (b1 : ∀ f, (G 51 f 0).toInt ≤ 20 * (n : Int)) (b2 : ∀ f p, (M 63 f p).toInt ≤ 10 * (n : Int)) (b3 : (G 9 0 0).toInt + (G 11 0 0).toInt + (G 0 0 0).toInt ≤ (n : Int)) : vInv n G M := by
  obtain ⟨hE, hrU, hrUz, hrD, hrG, hrGz, hrK, hrF, hrFz, hrP, hrV, hrLg, hrW, hrC, hrS, hrQ, hrT, hrX, hrH, hrJ, hrN⟩ := h
  obtain ⟨n1, n2, n3, n4, n5, n6, Z, n7, n8, n9, na, nb⟩ := hrN
  exact ⟨hE, hrU, hrUz, hrD, hrG, hrGz, hrK, hrF, hrFz, hrP, hrV, hrLg, hrW, hrC, hrS, hrQ, hrT, hrX, hrH, hrJ, ⟨b1, b2, n3, n4, n5, b3, Z, n7, n8, n9, na, nb⟩⟩
theorem nB {n : Nat} {g m : vS} (h : vInv n g m) : (∀ f, (g 51 f 0).toInt ≤ 20 * (n : Int)) ∧ (∀ f p, (m 63 f p).toInt ≤ 10 * (n : Int)) ∧ (g 9 0 0).toInt + (g 11 0 0).toInt + (g 0 0 0).toInt ≤ (n : Int) := by
  obtain ⟨-, -, -, -, -, -, -, -, -, -, -, -, -, -, -, -, -, -, -, -, hN⟩ := h
  exact ⟨hN.1, hN.2.1, hN.2.2.2.2.2.1⟩
theorem pz_write : PZ_write vInv := by
  intro n g m h hn u x y z
  have bT := bE h (by omega)
  rcases nU h u with ⟨a1, a2, a3, a4, a5, a6, a7⟩ | ⟨a1, a2, -⟩
  · rcases nF h x with ⟨b1, b2, b3, b4, b5, b6, b7⟩ | ⟨b1, b2, -⟩
    · rcases nPn (g := g) (m := m) y with ⟨c1, c2, c3, c4, c5, c6, c7⟩ | ⟨c1, c2, -⟩
      · have op := openE h (u := u) b3 b4 c3 c4
        rcases needM h (i := (g 50 x.toNatClampNeg 0).toNatClampNeg) a3 a5 with ⟨d1, d2, d3⟩ | ⟨d1, d2, d3⟩
        · by_cases e : g 21 u.toNatClampNeg 0 = 0
          · rcases op with ⟨o1, o2, o3, o4⟩ | ⟨o1, o4⟩
            · rw [if_neg d2, if_pos e] at o4
              have P := put_ok (v := z) (vInv_w (k := 0) h) (by omega) bT.2 b3 b4 c3 c4 o2 o3
              obtain ⟨p1, p2, p3, p4, p5, p6, p7⟩ := P
              have B := nB h
              have hG : S_X11_write g u x y z = S_X11_put g x.toNatClampNeg y z := by simp only [S_X11_write, a1, b1, c1, d1, e, o1, ↓reduceIte, d10]
              have hX : X_X11_write g u x y z = 0 := by simp only [X_X11_write, a1, b1, c1, d1, e, o1, ↓reduceIte, d10]
              have hS : S_X12_write m u x y z = S_X12_puts (s3 m 1 0 0 0) x y z := by
                simp only [S_X12_write, a2, b2, c2, o4, ↓reduceIte, d10]
                rw [if_pos (by rfl)]; rfl
              have hV : V_X11_write g u x y z = V_X12_write m u x y z := by
                have v1 : V_X11_write g u x y z = V_X11_put g x.toNatClampNeg y z := by simp only [V_X11_write, a1, b1, c1, d1, e, o1, ↓reduceIte, d10]
                have v2 : V_X12_write m u x y z = V_X12_puts (s3 m 1 0 0 0) x y z := by
                  simp only [V_X12_write, a2, b2, c2, o4, ↓reduceIte, d10]
                  rw [if_pos (by rfl)]; rfl
                rw [v1, v2, p2]
              rw [hX, hV, hG, hS]
              refine pz_st (k := 0) (vInv_fin p1 (fun f => ?_) (fun f p => ?_) ?_) ?_ rfl (fun _ => rfl) (p_ph (p3 14 (by decide) 0 0)) ?_ (p_pw (fun i j => (p4 14 (by decide) i j).trans (s3_k (by decide))))
              · have a := p5 f; have b := B.1 f; omega
              · have a := p6 f p; have b := B.2.1 f p; rw [s3_k (by decide)] at a; omega
              · rw [p3 9 (by decide), p3 11 (by decide), p3 0 (by decide)]; have := B.2.2; omega
              · exact (p4 1 (by decide) 0 0).trans s3_s
              · refine vPb_mono (fun f => ?_)
                have a := p7 f
                rw [s3_k (by decide)] at a
                exact a
            · rw [if_neg d2] at o4
              have hG : S_X11_write g u x y z = g := by simp only [S_X11_write, a1, b1, c1, d1, e, o1, ↓reduceIte]
              have hX : X_X11_write g u x y z = 3 := by simp only [X_X11_write, a1, b1, c1, d1, e, o1, ↓reduceIte]
              rw [hG, hX]
              refine pz_ro h (k := 4) ?_ rfl (fun q => absurd q (by decide))
              simp only [S_X12_write, a2, b2, c2, o4, ↓reduceIte, d10]
              rw [if_neg (show ¬ V_X12_isWrong m 4 = 0 from (by decide : ¬ (1 : Int32) = 0))]; rfl
          · have o4 : V_X12_cannotWrite m u x y = 4 := by
              rcases op with ⟨-, -, -, o4⟩ | ⟨-, o4⟩
              · rw [o4, if_neg d2, if_neg e]
              · rw [o4, if_neg d2]
            have hG : S_X11_write g u x y z = g := by simp only [S_X11_write, a1, b1, c1, d1, e, ↓reduceIte]
            have hX : X_X11_write g u x y z = 3 := by simp only [X_X11_write, a1, b1, c1, d1, e, ↓reduceIte]
            rw [hG, hX]
            refine pz_ro h (k := 4) ?_ rfl (fun q => absurd q (by decide))
            simp only [S_X12_write, a2, b2, c2, o4, ↓reduceIte, d10]
            rw [if_neg (show ¬ V_X12_isWrong m 4 = 0 from (by decide : ¬ (1 : Int32) = 0))]; rfl
        · have o4 : V_X12_cannotWrite m u x y = 3 := by
            rcases op with ⟨-, -, -, o4⟩ | ⟨-, o4⟩ <;> rw [o4, if_pos d2]
          have hG : S_X11_write g u x y z = g := by simp only [S_X11_write, a1, b1, c1, d1, n40, ↓reduceIte]
          have hX : X_X11_write g u x y z = 4 := by simp only [X_X11_write, a1, b1, c1, d1, n40, ↓reduceIte]
          rw [hG, hX]
          refine pz_ro h (k := 3) ?_ rfl (fun q => absurd q (by decide))
          simp only [S_X12_write, a2, b2, c2, o4, ↓reduceIte, d10]
          rw [if_neg (show ¬ V_X12_isWrong m 3 = 0 from (by decide : ¬ (1 : Int32) = 0))]; rfl
      · have hG : S_X11_write g u x y z = g := by simp only [S_X11_write, a1, b1, c1, n20, ↓reduceIte]
        have hX : X_X11_write g u x y z = 2 := by simp only [X_X11_write, a1, b1, c1, n20, ↓reduceIte]
        rw [hG, hX]
        exact pz_ro h (k := 2) (by simp only [S_X12_write, a2, b2, c2, ↓reduceIte, d10, S_X12_isWrong]) rfl (fun q => absurd q (by decide))
    · have hG : S_X11_write g u x y z = g := by simp only [S_X11_write, a1, b1, n10, ↓reduceIte]
      have hX : X_X11_write g u x y z = 1 := by simp only [X_X11_write, a1, b1, n10, ↓reduceIte]
      rw [hG, hX]
      exact pz_ro h (k := 1) (by simp only [S_X12_write, a2, b2, ↓reduceIte, d10, S_X12_isWrong]) rfl (fun q => absurd q (by decide))
  · have hG : S_X11_write g u x y z = g := by simp only [S_X11_write, a1, n10, ↓reduceIte]
    have hX : X_X11_write g u x y z = 1 := by simp only [X_X11_write, a1, n10, ↓reduceIte]
    rw [hG, hX]
    exact pz_ro h (k := 1) (by simp only [S_X12_write, a2, ↓reduceIte, S_X12_isWrong]) rfl (fun q => absurd q (by decide))
