/-- the codes that both sides keep alike -/
abbrev vPairs : List (Nat × Nat) := [(0, 2), (1, 3), (2, 4), (4, 11), (3, 5), (6, 7), (7, 8), (8, 9), (9, 10), (5, 12), (20, 41), (22, 42), (23, 43), (24, 44), (25, 45), (26, 46), (21, 47), (27, 81), (30, 76), (31, 78), (32, 80), (40, 48), (41, 49), (42, 50), (44, 52), (50, 55), (51, 56), (52, 57), (53, 68), (80, 73), (70, 69), (71, 70), (72, 72), (84, 82)]
def rE (g m : vS) : Prop := ∀ q ∈ vPairs, ∀ i j : Nat, g q.1 i j = m q.2 i j
theorem rE_s {g m : vS} {a b i j : Nat} {v : Int32} (hp : (a, b) ∈ vPairs) (ha : ∀ q ∈ vPairs, (q.1 = a ↔ q.2 = b)) (h : rE g m) : rE (s3 g a i j v) (s3 m b i j v) := fun q hq i' j' => by
  unfold s3
  have e := ha q hq
  have e2 := h q hq i' j'
  by_cases c : q.1 = a
  · have c2 := e.mp c
    by_cases d : i' = i ∧ j' = j
    · rw [if_pos ⟨c, d⟩, if_pos ⟨c2, d⟩]
    · rw [if_neg (fun z => d z.2), if_neg (fun z => d z.2), e2]
  · have c2 : q.2 ≠ b := fun z => c (e.mpr z)
    rw [if_neg (fun z => c z.1), if_neg (fun z => c2 z.1), e2]
theorem rE_g {g m : vS} {a i j : Nat} {v : Int32} (ha : ∀ q ∈ vPairs, q.1 ≠ a) (h : rE g m) : rE (s3 g a i j v) m := fun q hq i' j' => by
  rw [s3_k (ha q hq)]; exact h q hq i' j'
theorem rE_m {g m : vS} {b i j : Nat} {v : Int32} (hb : ∀ q ∈ vPairs, q.2 ≠ b) (h : rE g m) : rE g (s3 m b i j v) := fun q hq i' j' => by
  rw [s3_k (hb q hq)]; exact h q hq i' j'
theorem rE_k {g m G M : vS} (hg : ∀ q ∈ vPairs, ∀ i j : Nat, G q.1 i j = g q.1 i j) (hm : ∀ q ∈ vPairs, ∀ i j : Nat, M q.2 i j = m q.2 i j) (h : rE g m) : rE G M := fun q hq i j => by rw [hg q hq, hm q hq]; exact h q hq i j
/-- until when a place is shared, behind the first events -/
def rpS (g : vS) (p : Nat) : Nat → Int32
  | 0 => 0
  | k + 1 => if g 85 k 0 = nI p then (if g 86 k 0 = 0 then nI (k + 1) else 2147483647) else rpS g p k
theorem rpS_k {g G : vS} (h1 : ∀ i j, G 85 i j = g 85 i j) (h2 : ∀ i j, G 86 i j = g 86 i j) {p : Nat} : ∀ k, rpS G p k = rpS g p k := by
  intro k
  induction k with
  | zero => rfl
  | succ k ih => unfold rpS; rw [h1, h2, ih]
theorem partCount_k {g G : vS} {f : Nat} (h : ∀ i j, G 106 i j = g 106 i j) : ∀ (n i : Nat) (x : Int32), VL_X4_partCount_4 G f n i x = VL_X4_partCount_4 g f n i x := by
  intro n
  induction n with
  | zero => intro i x; rfl
  | succ n ih => intro i x; unfold VL_X4_partCount_4; rw [h, ih, ih]
theorem partsOf_k {g G : vS} {a : Nat} (h1 : ∀ i j, G 2 i j = g 2 i j) (h2 : ∀ i j, G 105 i j = g 105 i j) (h3 : ∀ i j, G 48 i j = g 48 i j) (h4 : ∀ i j, G 50 i j = g 50 i j) (h5 : ∀ i j, G 106 i j = g 106 i j) : V_X11_partsOf G a = V_X11_partsOf g a := by
  have L : ∀ (n i : Nat) (x : Int32), VL_X11_partsOf_4 G a n i x = VL_X11_partsOf_4 g a n i x := by
    intro n
    induction n with
    | zero => intro i x; rfl
    | succ n ih =>
      intro i x
      have e : V_X4_partCount G i = V_X4_partCount g i := partCount_k h5 _ _ _
      unfold VL_X11_partsOf_4
      rw [h1, h2, h3, h3, h4, e, ih, ih]
  exact L _ _ _
theorem slotFor_k {g G : vS} {nm nm2 : vN} {Ln : Nat} {F : Nat → Int32} {x : Int32} : V_X8_slotFor G nm Ln F x = V_X8_slotFor g nm2 Ln F x := by
  have L : ∀ n i, VL_X8_slotFor_15 G nm Ln F x n i = VL_X8_slotFor_15 g nm2 Ln F x n i := by
    intro n
    induction n with
    | zero => intro i; rfl
    | succ n ih => intro i; unfold VL_X8_slotFor_15; rw [ih]
  exact L _ _
/-- users -/
def rU (g : vS) : Prop := 0 ≤ (g 0 0 0).toInt ∧ (g 0 0 0).toInt ≤ 6 ∧ (∀ u : Nat, g 103 u 0 = 0 ↔ (g 0 0 0).toInt ≤ (u : Int)) ∧ (∀ u : Nat, (u : Int) < (g 0 0 0).toInt → g 28 u 0 = nI u) ∧ (∀ u : Nat, 0 ≤ (g 22 u 0).toInt ∧ 0 ≤ (g 26 u 0).toInt ∧ (g 26 u 0).toInt ≤ (g 25 u 0).toInt ∧ (g 25 u 0).toInt ≤ 8 ∧ (g 25 u 0 = 0 ↔ g 26 u 0 = 0))
/-- users that are not there have nothing -/
def rUz (g : vS) : Prop := ∀ u k : Nat, (g 0 0 0).toInt ≤ (u : Int) → g 20 u k = 0 ∧ g 21 u k = 0 ∧ g 22 u k = 0 ∧ g 23 u k = 0 ∧ g 24 u k = 0 ∧ g 25 u k = 0 ∧ g 26 u k = 0 ∧ g 27 u k = 0 ∧ g 30 u k = 0 ∧ g 31 u k = 0 ∧ g 32 u k = 0
/-- drafts -/
def rD (g : vS) : Prop := (∀ u : Nat, 0 ≤ (g 27 u 0).toInt ∧ (g 27 u 0).toInt ≤ 10) ∧ (∀ u k : Nat, 0 ≤ (g 30 u k).toInt ∧ (g 30 u k).toInt < 160) ∧ (∀ u k : Nat, (k : Int) < (g 27 u 0).toInt → (g 30 u k).toInt < 8 * (g 2 0 0).toInt) ∧ (∀ u j k : Nat, (j : Int) < (g 27 u 0).toInt → (k : Int) < (g 27 u 0).toInt → g 30 u j = g 30 u k → j = k)
/-- groups -/
def rG (g : vS) : Prop := 0 ≤ (g 1 0 0).toInt ∧ (g 1 0 0).toInt ≤ 5 ∧ (∀ i : Nat, g 104 i 0 = 0 ↔ (g 1 0 0).toInt ≤ (i : Int)) ∧ (∀ i : Nat, (i : Int) < (g 1 0 0).toInt → g 48 i 0 = nI i ∧ g 46 i 0 = pMix 2 (nI i) ∧ 1 ≤ (g 41 i 0).toInt ∧ g 44 i (g 40 i 0).toNatClampNeg = 1 ∧ 0 ≤ (g 40 i 0).toInt) ∧ (∀ i : Nat, (g 41 i 0).toInt ≤ 40) ∧ (∀ i u : Nat, g 44 i u = 0 ∨ (g 44 i u = 1 ∧ (u : Int) < (g 0 0 0).toInt ∧ (i : Int) < (g 1 0 0).toInt)) ∧ (∀ i : Nat, g 43 i 0 = g 44 i 0 + g 44 i 1 + g 44 i 2 + g 44 i 3 + g 44 i 4 + g 44 i 5)
/-- groups that are not there have nothing -/
def rGz (g : vS) : Prop := ∀ i k : Nat, (g 1 0 0).toInt ≤ (i : Int) → g 40 i k = 0 ∧ g 41 i k = 0 ∧ g 42 i k = 0 ∧ g 43 i k = 0 ∧ g 44 i k = 0
/-- what is known -/
def rK (g m : vS) : Prop := (∀ i u : Nat, (i : Int) < (g 1 0 0).toInt → u < 6 → g 47 i u = m 54 i u + 1) ∧ (∀ i u : Nat, -1 ≤ (m 54 i u).toInt) ∧ (∀ i u : Nat, (i : Int) < (g 1 0 0).toInt → u < 6 → (m 54 i u).toInt < (g 42 i 0).toInt) ∧ (∀ i u : Nat, ((g 1 0 0).toInt ≤ (i : Int) ∨ 6 ≤ u) → m 54 i u = 0) ∧ (∀ i : Nat, 0 ≤ (g 42 i 0).toInt)
/-- files -/
def rF (g m : vS) : Prop := 0 ≤ (g 2 0 0).toInt ∧ (g 2 0 0).toInt ≤ 20 ∧ (∀ f : Nat, g 105 f 0 = 0 ↔ (g 2 0 0).toInt ≤ (f : Int)) ∧ (∀ f : Nat, (f : Int) < (g 2 0 0).toInt → g 66 f 0 = nI f ∧ g 63 f 0 = pMix 6 (nI f) ∧ g 62 f 0 = pMix (pMix 4 (nI f)) (g 51 f 0) ∧ (g 50 f 0).toInt < (g 1 0 0).toInt ∧ g 61 f 0 = m 59 f (g 51 f 0).toNatClampNeg ∧ (g 61 f 0).toInt ≤ (g 42 (g 50 f 0).toNatClampNeg 0).toInt) ∧ (∀ f : Nat, 0 ≤ (g 50 f 0).toInt ∧ (g 50 f 0).toInt < 5 ∧ 0 ≤ (g 51 f 0).toInt ∧ (g 51 f 0).toInt < ((m 13 f 0).toNatClampNeg : Int) ∧ (m 13 f 0).toInt ≤ 2 * (g 51 f 0).toInt + 8 ∧ 0 ≤ (m 13 f 0).toInt)
/-- files that are not there have nothing -/
def rFz (g : vS) : Prop := ∀ f k : Nat, (g 2 0 0).toInt ≤ (f : Int) → g 50 f k = 0 ∧ g 51 f k = 0 ∧ g 52 f k = 0 ∧ g 53 f k = 0 ∧ g 106 f k = 0
/-- parts -/
def rP (g m : vS) : Prop := ∀ f p : Nat, (g 106 f p = 0 ∧ m 63 f p = 0) ∨ (p < 8 ∧ g 106 f p ≠ 0 ∧ g 56 f p = m 63 f p ∧ 1 ≤ (g 56 f p).toInt ∧ g 57 f p = m 61 f p ∧ g 59 f p = m 67 f p ∧ g 58 f p = m 65 f p ∧ g 64 f p = pMix (pMix (pMix 4 (nI f)) (m 61 f p)) (nI p) ∧ g 65 f p = m 59 f (m 61 f p).toNatClampNeg ∧ g 67 f p = nI p ∧ (g 65 f p).toInt ≤ (g 42 (g 50 f 0).toNatClampNeg 0).toInt ∧ 0 ≤ (g 60 f p).toInt ∧ (g 60 f p).toInt ≤ (g 11 0 0).toInt)
/-- versions of parts -/
def rV (g m : vS) : Prop := ∀ f p : Nat, 0 ≤ (m 61 f p).toInt ∧ (m 61 f p).toInt ≤ (g 51 f 0).toInt
/-- log -/
def rLg (g : vS) : Prop := 0 ≤ (g 4 0 0).toInt ∧ (g 4 0 0).toInt ≤ 300
/-- words -/
def rW (g : vS) : Prop := 0 ≤ (g 3 0 0).toInt ∧ (g 3 0 0).toInt ≤ 60 ∧ (∀ k : Nat, 0 ≤ (g 71 k 0).toInt ∧ (g 71 k 0).toInt < 20) ∧ (∀ f : Nat, g 72 f 0 = 0 ∨ g 72 f 0 = 1)
/-- conflicts -/
def rC (g : vS) : Prop := 0 ≤ (g 5 0 0).toInt ∧ (g 5 0 0).toInt ≤ 10
/-- shares -/
def rS (g m : vS) : Prop := (∀ k : Nat, 1 ≤ k → k ≤ 8 → (g 82 k 0 = 0 ∧ m 74 k 0 = -1) ∨ (g 82 k 0 = 1 ∧ g 83 k 0 = m 74 k 0 ∧ 0 ≤ (m 74 k 0).toInt ∧ (m 74 k 0).toInt < 65521)) ∧ g 17 0 0 = g 82 1 0 + g 82 2 0 + g 82 3 0 + g 82 4 0 + g 82 5 0 + g 82 6 0 + g 82 7 0 + g 82 8 0
/-- quotas -/
def rQ (g : vS) : Prop := ∀ i : Nat, (i : Int) < (g 1 0 0).toInt → (V_X11_partsOf g i).toInt ≤ (g 41 i 0).toInt
/-- tokens -/
def rT (g m : vS) : Prop := (vPh g = 256 ∨ vPh g = 512 ∨ vPh g = 1024 ∨ vPh g = 2048 ∨ vPh g = 4096 ∨ vPh g = 8192 ∨ vPh g = 16384 ∨ vPh g = 32768 ∨ vPh g = 65536) ∧ 0 ≤ (g 12 0 0).toInt ∧ 2 * (g 12 0 0).toInt ≤ (vPh g : Int) ∧ (g 12 0 0).toInt = ((List.range (vPh g)).countP (fun s => g 75 s 0 != 0) : Nat) ∧ (∀ s : Nat, s < vPh g → g 75 s 0 ≠ 0 → V_X8_slotFor g (15, 0) (vPh g) (fun k => g 75 k 0) (g 75 s 0) = nI s) ∧ (∀ x : Int32, x ≠ 0 → ((∃ s : Nat, s < vPh g ∧ g 75 s 0 = x) ↔ ∃ k : Nat, (k : Int) < (m 6 0 0).toInt ∧ m 71 k 0 = x)) ∧ (g 13 0 0 ≠ 0 ↔ ∃ k : Nat, (k : Int) < (m 6 0 0).toInt ∧ m 71 k 0 = 0) ∧ (g 12 0 0).toInt ≤ (m 6 0 0).toInt ∧ (m 6 0 0).toInt ≤ ((m 14 0 0).toNatClampNeg : Int) ∧ 1 ≤ (m 14 0 0).toNatClampNeg ∧ ((m 14 0 0).toNatClampNeg : Int) ≤ 2 * (m 6 0 0).toInt + 64
/-- found files in their order -/
def rX (g : vS) : Prop := 0 ≤ (g 16 0 0).toInt ∧ (g 16 0 0).toInt = ((List.range 20).countP (fun f => g 72 f 0 != 0) : Nat) ∧ (∀ k f : Nat, f < 20 → g 72 f 0 ≠ 0 → k = (List.range f).countP (fun q => g 72 q 0 != 0) → g 73 k 0 = nI f)
/-- grants -/
def rH (g m : vS) : Prop := 0 ≤ (g 11 0 0).toInt ∧ (∀ i u : Nat, (i : Int) < (g 1 0 0).toInt → u < 6 → (g 44 i u ≠ 0 → rpS g (6 * i + u) (g 11 0 0).toNatClampNeg = 2147483647) ∧ (g 44 i u = 0 → (rpS g (6 * i + u) (g 11 0 0).toNatClampNeg).toInt ≤ (g 11 0 0).toInt)) ∧ (∀ i u : Nat, (g 1 0 0).toInt ≤ (i : Int) → i < 5 → u < 6 → rpS g (6 * i + u) (g 11 0 0).toNatClampNeg = 0) ∧ (∀ f p u : Nat, (f : Int) < (g 2 0 0).toInt → g 106 f p ≠ 0 → u < 6 → ((g 60 f p).toInt < (rpS g (6 * (g 50 f 0).toNatClampNeg + u) (g 11 0 0).toNatClampNeg).toInt ↔ (g 65 f p).toInt ≤ (if g 44 (g 50 f 0).toNatClampNeg u = 0 then m 54 (g 50 f 0).toNatClampNeg u else g 42 (g 50 f 0).toNatClampNeg 0).toInt))
/-- secrets -/
def rJ (g : vS) : Prop := ∀ u : Nat, 0 ≤ (g 20 u 0).toInt ∧ (g 20 u 0).toInt ≤ 9999
/-- counting -/
def rN (n : Nat) (g m : vS) : Prop := (∀ f : Nat, (g 51 f 0).toInt ≤ 20 * (n : Int)) ∧ (∀ f p : Nat, (m 63 f p).toInt ≤ 10 * (n : Int)) ∧ 0 ≤ (g 9 0 0).toInt ∧ 0 ≤ (g 8 0 0).toInt ∧ (g 8 0 0).toInt ≤ 20 * (g 9 0 0).toInt ∧ (g 9 0 0).toInt + (g 11 0 0).toInt + (g 0 0 0).toInt ≤ (n : Int) ∧ ∃ L : Int, 0 ≤ L ∧ (g 11 0 0).toInt = (g 43 0 0).toInt + (g 43 1 0).toInt + (g 43 2 0).toInt + (g 43 3 0).toInt + (g 43 4 0).toInt + 2 * L ∧ (∀ i : Nat, (g 42 i 0).toInt ≤ L) ∧ (1 ≤ L → 2 ≤ (g 0 0 0).toInt ∧ 1 ≤ (g 1 0 0).toInt) ∧ (m 6 0 0).toInt ≤ (g 9 0 0).toInt * (L + 1)
theorem rU_k {g G : vS} (hg : ∀ c ∈ ([0, 22, 25, 26, 28, 103] : List Nat), ∀ i j : Nat, G c i j = g c i j) (h : rU g) : rU G := by
  have g0 := hg 0 (by decide)
  have g22 := hg 22 (by decide)
  have g25 := hg 25 (by decide)
  have g26 := hg 26 (by decide)
  have g28 := hg 28 (by decide)
  have g103 := hg 103 (by decide)
  unfold rU at h ⊢
  simp only [g0, g22, g25, g26, g28, g103]
  exact h
theorem rUz_k {g G : vS} (hg : ∀ c ∈ ([0, 20, 21, 22, 23, 24, 25, 26, 27, 30, 31, 32] : List Nat), ∀ i j : Nat, G c i j = g c i j) (h : rUz g) : rUz G := by
  have g0 := hg 0 (by decide)
  have g20 := hg 20 (by decide)
  have g21 := hg 21 (by decide)
  have g22 := hg 22 (by decide)
  have g23 := hg 23 (by decide)
  have g24 := hg 24 (by decide)
  have g25 := hg 25 (by decide)
  have g26 := hg 26 (by decide)
  have g27 := hg 27 (by decide)
  have g30 := hg 30 (by decide)
  have g31 := hg 31 (by decide)
  have g32 := hg 32 (by decide)
  unfold rUz at h ⊢
  simp only [g0, g20, g21, g22, g23, g24, g25, g26, g27, g30, g31, g32]
  exact h
theorem rD_k {g G : vS} (hg : ∀ c ∈ ([2, 27, 30] : List Nat), ∀ i j : Nat, G c i j = g c i j) (h : rD g) : rD G := by
  have g2 := hg 2 (by decide)
  have g27 := hg 27 (by decide)
  have g30 := hg 30 (by decide)
  unfold rD at h ⊢
  simp only [g2, g27, g30]
  exact h
theorem rG_k {g G : vS} (hg : ∀ c ∈ ([0, 1, 40, 41, 43, 44, 46, 48, 104] : List Nat), ∀ i j : Nat, G c i j = g c i j) (h : rG g) : rG G := by
  have g0 := hg 0 (by decide)
  have g1 := hg 1 (by decide)
  have g40 := hg 40 (by decide)
  have g41 := hg 41 (by decide)
  have g43 := hg 43 (by decide)
  have g44 := hg 44 (by decide)
  have g46 := hg 46 (by decide)
  have g48 := hg 48 (by decide)
  have g104 := hg 104 (by decide)
  unfold rG at h ⊢
  simp only [g0, g1, g40, g41, g43, g44, g46, g48, g104]
  exact h
theorem rGz_k {g G : vS} (hg : ∀ c ∈ ([1, 40, 41, 42, 43, 44] : List Nat), ∀ i j : Nat, G c i j = g c i j) (h : rGz g) : rGz G := by
  have g1 := hg 1 (by decide)
  have g40 := hg 40 (by decide)
  have g41 := hg 41 (by decide)
  have g42 := hg 42 (by decide)
  have g43 := hg 43 (by decide)
  have g44 := hg 44 (by decide)
  unfold rGz at h ⊢
  simp only [g1, g40, g41, g42, g43, g44]
  exact h
theorem rK_k {g G m M : vS} (hg : ∀ c ∈ ([1, 42, 47] : List Nat), ∀ i j : Nat, G c i j = g c i j) (hm : ∀ c ∈ ([54] : List Nat), ∀ i j : Nat, M c i j = m c i j) (h : rK g m) : rK G M := by
  have g1 := hg 1 (by decide)
  have g42 := hg 42 (by decide)
  have g47 := hg 47 (by decide)
  have m54 := hm 54 (by decide)
  unfold rK at h ⊢
  simp only [g1, g42, g47, m54]
  exact h
theorem rF_k {g G m M : vS} (hg : ∀ c ∈ ([1, 2, 42, 50, 51, 61, 62, 63, 66, 105] : List Nat), ∀ i j : Nat, G c i j = g c i j) (hm : ∀ c ∈ ([13, 59] : List Nat), ∀ i j : Nat, M c i j = m c i j) (h : rF g m) : rF G M := by
  have g1 := hg 1 (by decide)
  have g2 := hg 2 (by decide)
  have g42 := hg 42 (by decide)
  have g50 := hg 50 (by decide)
  have g51 := hg 51 (by decide)
  have g61 := hg 61 (by decide)
  have g62 := hg 62 (by decide)
  have g63 := hg 63 (by decide)
  have g66 := hg 66 (by decide)
  have g105 := hg 105 (by decide)
  have m13 := hm 13 (by decide)
  have m59 := hm 59 (by decide)
  unfold rF at h ⊢
  simp only [g1, g2, g42, g50, g51, g61, g62, g63, g66, g105, m13, m59]
  exact h
theorem rFz_k {g G : vS} (hg : ∀ c ∈ ([2, 50, 51, 52, 53, 106] : List Nat), ∀ i j : Nat, G c i j = g c i j) (h : rFz g) : rFz G := by
  have g2 := hg 2 (by decide)
  have g50 := hg 50 (by decide)
  have g51 := hg 51 (by decide)
  have g52 := hg 52 (by decide)
  have g53 := hg 53 (by decide)
  have g106 := hg 106 (by decide)
  unfold rFz at h ⊢
  simp only [g2, g50, g51, g52, g53, g106]
  exact h
theorem rP_k {g G m M : vS} (hg : ∀ c ∈ ([11, 42, 50, 56, 57, 58, 59, 60, 64, 65, 67, 106] : List Nat), ∀ i j : Nat, G c i j = g c i j) (hm : ∀ c ∈ ([59, 61, 63, 65, 67] : List Nat), ∀ i j : Nat, M c i j = m c i j) (h : rP g m) : rP G M := by
  have g11 := hg 11 (by decide)
  have g42 := hg 42 (by decide)
  have g50 := hg 50 (by decide)
  have g56 := hg 56 (by decide)
  have g57 := hg 57 (by decide)
  have g58 := hg 58 (by decide)
  have g59 := hg 59 (by decide)
  have g60 := hg 60 (by decide)
  have g64 := hg 64 (by decide)
  have g65 := hg 65 (by decide)
  have g67 := hg 67 (by decide)
  have g106 := hg 106 (by decide)
  have m59 := hm 59 (by decide)
  have m61 := hm 61 (by decide)
  have m63 := hm 63 (by decide)
  have m65 := hm 65 (by decide)
  have m67 := hm 67 (by decide)
  unfold rP at h ⊢
  simp only [g11, g42, g50, g56, g57, g58, g59, g60, g64, g65, g67, g106, m59, m61, m63, m65, m67]
  exact h
theorem rV_k {g G m M : vS} (hg : ∀ c ∈ ([51] : List Nat), ∀ i j : Nat, G c i j = g c i j) (hm : ∀ c ∈ ([61] : List Nat), ∀ i j : Nat, M c i j = m c i j) (h : rV g m) : rV G M := by
  have g51 := hg 51 (by decide)
  have m61 := hm 61 (by decide)
  unfold rV at h ⊢
  simp only [g51, m61]
  exact h
theorem rLg_k {g G : vS} (hg : ∀ c ∈ ([4] : List Nat), ∀ i j : Nat, G c i j = g c i j) (h : rLg g) : rLg G := by
  have g4 := hg 4 (by decide)
  unfold rLg at h ⊢
  simp only [g4]
  exact h
theorem rW_k {g G : vS} (hg : ∀ c ∈ ([3, 71, 72] : List Nat), ∀ i j : Nat, G c i j = g c i j) (h : rW g) : rW G := by
  have g3 := hg 3 (by decide)
  have g71 := hg 71 (by decide)
  have g72 := hg 72 (by decide)
  unfold rW at h ⊢
  simp only [g3, g71, g72]
  exact h
theorem rC_k {g G : vS} (hg : ∀ c ∈ ([5] : List Nat), ∀ i j : Nat, G c i j = g c i j) (h : rC g) : rC G := by
  have g5 := hg 5 (by decide)
  unfold rC at h ⊢
  simp only [g5]
  exact h
theorem rS_k {g G m M : vS} (hg : ∀ c ∈ ([17, 82, 83] : List Nat), ∀ i j : Nat, G c i j = g c i j) (hm : ∀ c ∈ ([74] : List Nat), ∀ i j : Nat, M c i j = m c i j) (h : rS g m) : rS G M := by
  have g17 := hg 17 (by decide)
  have g82 := hg 82 (by decide)
  have g83 := hg 83 (by decide)
  have m74 := hm 74 (by decide)
  unfold rS at h ⊢
  simp only [g17, g82, g83, m74]
  exact h
theorem rQ_k {g G : vS} (hg : ∀ c ∈ ([1, 2, 41, 48, 50, 105, 106] : List Nat), ∀ i j : Nat, G c i j = g c i j) (h : rQ g) : rQ G := by
  have g1 := hg 1 (by decide)
  have g2 := hg 2 (by decide)
  have g41 := hg 41 (by decide)
  have g48 := hg 48 (by decide)
  have g50 := hg 50 (by decide)
  have g105 := hg 105 (by decide)
  have g106 := hg 106 (by decide)
  have e0 : ∀ i, V_X11_partsOf G i = V_X11_partsOf g i := fun i => partsOf_k g2 g105 g48 g50 g106
  unfold rQ at h ⊢
  simp only [g1, g41, e0]
  exact h
theorem rT_k {g G m M : vS} (hg : ∀ c ∈ ([12, 13, 14, 75] : List Nat), ∀ i j : Nat, G c i j = g c i j) (hm : ∀ c ∈ ([6, 14, 71] : List Nat), ∀ i j : Nat, M c i j = m c i j) (h : rT g m) : rT G M := by
  have g12 := hg 12 (by decide)
  have g13 := hg 13 (by decide)
  have g14 := hg 14 (by decide)
  have g75 := hg 75 (by decide)
  have m6 := hm 6 (by decide)
  have m14 := hm 14 (by decide)
  have m71 := hm 71 (by decide)
  have e1 : ∀ (F : Nat → Int32) (L : Nat) (x : Int32), V_X8_slotFor G (15, 0) L F x = V_X8_slotFor g (15, 0) L F x := fun F L x => slotFor_k
  have e2 : vPh G = vPh g := congrArg Int32.toNatClampNeg (g14 0 0)
  unfold rT at h ⊢
  simp only [g12, g13, g75, m6, m14, m71, e1, e2]
  exact h
theorem rX_k {g G : vS} (hg : ∀ c ∈ ([16, 72, 73] : List Nat), ∀ i j : Nat, G c i j = g c i j) (h : rX g) : rX G := by
  have g16 := hg 16 (by decide)
  have g72 := hg 72 (by decide)
  have g73 := hg 73 (by decide)
  unfold rX at h ⊢
  simp only [g16, g72, g73]
  exact h
theorem rH_k {g G m M : vS} (hg : ∀ c ∈ ([1, 2, 11, 42, 44, 50, 60, 65, 85, 86, 106] : List Nat), ∀ i j : Nat, G c i j = g c i j) (hm : ∀ c ∈ ([54] : List Nat), ∀ i j : Nat, M c i j = m c i j) (h : rH g m) : rH G M := by
  have g1 := hg 1 (by decide)
  have g2 := hg 2 (by decide)
  have g11 := hg 11 (by decide)
  have g42 := hg 42 (by decide)
  have g44 := hg 44 (by decide)
  have g50 := hg 50 (by decide)
  have g60 := hg 60 (by decide)
  have g65 := hg 65 (by decide)
  have g85 := hg 85 (by decide)
  have g86 := hg 86 (by decide)
  have g106 := hg 106 (by decide)
  have m54 := hm 54 (by decide)
  have e0 : ∀ p k, rpS G p k = rpS g p k := fun p k => rpS_k g85 g86 k
  unfold rH at h ⊢
  simp only [g1, g2, g11, g42, g44, g50, g60, g65, g106, m54, e0]
  exact h
theorem rJ_k {g G : vS} (hg : ∀ c ∈ ([20] : List Nat), ∀ i j : Nat, G c i j = g c i j) (h : rJ g) : rJ G := by
  have g20 := hg 20 (by decide)
  unfold rJ at h ⊢
  simp only [g20]
  exact h
theorem rN_k {n : Nat} {g G m M : vS} (hg : ∀ c ∈ ([0, 1, 8, 9, 11, 42, 43, 51] : List Nat), ∀ i j : Nat, G c i j = g c i j) (hm : ∀ c ∈ ([6, 63] : List Nat), ∀ i j : Nat, M c i j = m c i j) (h : rN n g m) : rN n G M := by
  have g0 := hg 0 (by decide)
  have g1 := hg 1 (by decide)
  have g8 := hg 8 (by decide)
  have g9 := hg 9 (by decide)
  have g11 := hg 11 (by decide)
  have g42 := hg 42 (by decide)
  have g43 := hg 43 (by decide)
  have g51 := hg 51 (by decide)
  have m6 := hm 6 (by decide)
  have m63 := hm 63 (by decide)
  unfold rN at h ⊢
  simp only [g0, g1, g8, g9, g11, g42, g43, g51, m6, m63]
  exact h
def vInv (n : Nat) (g m : vS) : Prop := rE g m ∧ rU g ∧ rUz g ∧ rD g ∧ rG g ∧ rGz g ∧ rK g m ∧ rF g m ∧ rFz g ∧ rP g m ∧ rV g m ∧ rLg g ∧ rW g ∧ rC g ∧ rS g m ∧ rQ g ∧ rT g m ∧ rX g ∧ rH g m ∧ rJ g ∧ rN n g m
