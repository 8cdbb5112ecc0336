theorem q_sub1 {x : Int32} (h : -2147483648 < x.toInt) : (x - 1).toInt = x.toInt - 1 := by
  rw [Int32.toInt_sub, show (1 : Int32).toInt = 1 from by decide]
  have := Int32.toInt_lt x
  exact Int.bmod_eq_of_le (by omega) (by omega)
theorem q_add1 {x : Int32} (h : x.toInt < 2147483647) : (x + 1).toInt = x.toInt + 1 := by
  rw [Int32.toInt_add, show (1 : Int32).toInt = 1 from by decide]
  have := Int32.le_toInt x
  exact Int.bmod_eq_of_le (by omega) (by omega)
theorem q_nI {x : Int32} (h : 0 ≤ x.toInt) : nI x.toNatClampNeg = x := by
  apply Int32.toInt_inj.mp
  have a := tnI h
  have b := Int32.toInt_lt x
  rw [nI_toInt (by omega)]; exact a
theorem d10 : ((1 : Int32) = 0) = False := by decide
theorem n10 : ((1 : Nat) = 0) = False := by decide
theorem n20 : ((2 : Nat) = 0) = False := by decide
theorem n30 : ((3 : Nat) = 0) = False := by decide
theorem n40 : ((4 : Nat) = 0) = False := by decide
theorem n50 : ((5 : Nat) = 0) = False := by decide
theorem i00 : (0 : Int32).toInt = 0 := by decide
theorem isB {g : vS} {x a b : Int32} : V_X12_isBetween g x a b = if a.toInt ≤ x.toInt ∧ x.toInt ≤ b.toInt then 1 else 0 := by
  unfold V_X12_isBetween
  by_cases h1 : x < a
  · rw [if_pos h1, if_neg (fun q => by rw [i32_lt] at h1; omega)]
  · rw [if_neg h1]
    by_cases h2 : b < x
    · rw [if_pos h2, if_neg (fun q => by rw [i32_lt] at h2; omega)]
    · rw [if_neg h2, if_pos (by rw [i32_lt] at h1 h2; omega)]
theorem isB1 {g : vS} {x a b : Int32} (h : a.toInt ≤ x.toInt ∧ x.toInt ≤ b.toInt) : V_X12_isBetween g x a b = 1 := by rw [isB, if_pos h]
theorem isB0 {g : vS} {x a b : Int32} (h : ¬ (a.toInt ≤ x.toInt ∧ x.toInt ≤ b.toInt)) : V_X12_isBetween g x a b = 0 := by rw [isB, if_neg h]
theorem nU {n : Nat} {g m : vS} (h : vInv n g m) (u : Int32) : (X_X11_needUser g u = 0 ∧ V_X12_isUser m u = 1 ∧ 0 ≤ u.toInt ∧ u.toInt < (g 0 0 0).toInt ∧ u.toNatClampNeg < 6 ∧ (u.toNatClampNeg : Int) = u.toInt ∧ nI u.toNatClampNeg = u) ∨ (X_X11_needUser g u = 1 ∧ V_X12_isUser m u = 0 ∧ ¬ (0 ≤ u.toInt ∧ u.toInt < (g 0 0 0).toInt)) := by
  obtain ⟨hE, ⟨h1, h2, h3, -⟩, -⟩ := h
  have e : (m 2 0 0).toInt = (g 0 0 0).toInt := congrArg Int32.toInt (hE (0, 2) (by decide) 0 0).symm
  have e2 : (m 2 0 0 - 1).toInt = (g 0 0 0).toInt - 1 := by rw [q_sub1 (by omega), e]
  by_cases c : 0 ≤ u.toInt ∧ u.toInt < (g 0 0 0).toInt
  · refine Or.inl ⟨?_, isB1 (by rw [e2, i00]; omega), c.1, c.2, by have := tnI c.1; omega, tnI c.1, q_nI c.1⟩
    unfold X_X11_needUser
    rw [if_neg (by rw [i32_lt, i00]; omega), if_neg (by rw [i32_le]; omega), if_pos (by rw [i32_lt, show (6 : Int32).toInt = 6 from by decide]; omega), if_neg (fun q => by have := (h3 _).mp q; rw [tnI c.1] at this; omega)]
  · refine Or.inr ⟨?_, isB0 (by rw [e2, i00]; omega), c⟩
    unfold X_X11_needUser
    by_cases c1 : u < 0
    · rw [if_pos c1]
    · rw [if_neg c1, if_pos (by rw [i32_lt, i00] at c1; rw [i32_le]; omega)]
theorem nG {n : Nat} {g m : vS} (h : vInv n g m) (u : Int32) : (X_X11_needGroup g u = 0 ∧ V_X12_isGroup m u = 1 ∧ 0 ≤ u.toInt ∧ u.toInt < (g 1 0 0).toInt ∧ u.toNatClampNeg < 5 ∧ (u.toNatClampNeg : Int) = u.toInt ∧ nI u.toNatClampNeg = u) ∨ (X_X11_needGroup g u = 1 ∧ V_X12_isGroup m u = 0 ∧ ¬ (0 ≤ u.toInt ∧ u.toInt < (g 1 0 0).toInt)) := by
  obtain ⟨hE, -, -, -, ⟨h1, h2, h3, -⟩, -⟩ := h
  have e : (m 3 0 0).toInt = (g 1 0 0).toInt := congrArg Int32.toInt (hE (1, 3) (by decide) 0 0).symm
  have e2 : (m 3 0 0 - 1).toInt = (g 1 0 0).toInt - 1 := by rw [q_sub1 (by omega), e]
  by_cases c : 0 ≤ u.toInt ∧ u.toInt < (g 1 0 0).toInt
  · refine Or.inl ⟨?_, isB1 (by rw [e2, i00]; omega), c.1, c.2, by have := tnI c.1; omega, tnI c.1, q_nI c.1⟩
    unfold X_X11_needGroup
    rw [if_neg (by rw [i32_lt, i00]; omega), if_neg (by rw [i32_le]; omega), if_pos (by rw [i32_lt, show (5 : Int32).toInt = 5 from by decide]; omega), if_neg (fun q => by have := (h3 _).mp q; rw [tnI c.1] at this; omega)]
  · refine Or.inr ⟨?_, isB0 (by rw [e2, i00]; omega), c⟩
    unfold X_X11_needGroup
    by_cases c1 : u < 0
    · rw [if_pos c1]
    · rw [if_neg c1, if_pos (by rw [i32_lt, i00] at c1; rw [i32_le]; omega)]
theorem nF {n : Nat} {g m : vS} (h : vInv n g m) (u : Int32) : (X_X11_needFile g u = 0 ∧ V_X12_isFile m u = 1 ∧ 0 ≤ u.toInt ∧ u.toInt < (g 2 0 0).toInt ∧ u.toNatClampNeg < 20 ∧ (u.toNatClampNeg : Int) = u.toInt ∧ nI u.toNatClampNeg = u) ∨ (X_X11_needFile g u = 1 ∧ V_X12_isFile m u = 0 ∧ ¬ (0 ≤ u.toInt ∧ u.toInt < (g 2 0 0).toInt)) := by
  obtain ⟨hE, -, -, -, -, -, -, ⟨h1, h2, h3, -⟩, -⟩ := h
  have e : (m 4 0 0).toInt = (g 2 0 0).toInt := congrArg Int32.toInt (hE (2, 4) (by decide) 0 0).symm
  have e2 : (m 4 0 0 - 1).toInt = (g 2 0 0).toInt - 1 := by rw [q_sub1 (by omega), e]
  by_cases c : 0 ≤ u.toInt ∧ u.toInt < (g 2 0 0).toInt
  · refine Or.inl ⟨?_, isB1 (by rw [e2, i00]; omega), c.1, c.2, by have := tnI c.1; omega, tnI c.1, q_nI c.1⟩
    unfold X_X11_needFile
    rw [if_neg (by rw [i32_lt, i00]; omega), if_neg (by rw [i32_le]; omega), if_pos (by rw [i32_lt, show (20 : Int32).toInt = 20 from by decide]; omega), if_neg (fun q => by have := (h3 _).mp q; rw [tnI c.1] at this; omega)]
  · refine Or.inr ⟨?_, isB0 (by rw [e2, i00]; omega), c⟩
    unfold X_X11_needFile
    by_cases c1 : u < 0
    · rw [if_pos c1]
    · rw [if_neg c1, if_pos (by rw [i32_lt, i00] at c1; rw [i32_le]; omega)]
theorem nPn {g m : vS} (p : Int32) : (X_X11_needPartNumber g p = 0 ∧ V_X12_isPart m p = 1 ∧ 0 ≤ p.toInt ∧ p.toInt < 8 ∧ p.toNatClampNeg < 8 ∧ (p.toNatClampNeg : Int) = p.toInt ∧ nI p.toNatClampNeg = p) ∨ (X_X11_needPartNumber g p = 2 ∧ V_X12_isPart m p = 0 ∧ ¬ (0 ≤ p.toInt ∧ p.toInt < 8)) := by
  by_cases c : 0 ≤ p.toInt ∧ p.toInt < 8
  · refine Or.inl ⟨?_, isB1 (by rw [i00, show (7 : Int32).toInt = 7 from by decide]; omega), c.1, c.2, by have := tnI c.1; omega, tnI c.1, q_nI c.1⟩
    unfold X_X11_needPartNumber
    rw [if_neg (by rw [i32_lt, i00]; omega), if_pos (by rw [i32_lt, show (8 : Int32).toInt = 8 from by decide]; omega)]
  · refine Or.inr ⟨?_, isB0 (by rw [i00, show (7 : Int32).toInt = 7 from by decide]; omega), c⟩
    unfold X_X11_needPartNumber
    by_cases c1 : p < 0
    · rw [if_pos c1]
    · rw [if_neg c1, if_neg (by rw [i32_lt, i00] at c1; rw [i32_lt, show (8 : Int32).toInt = 8 from by decide]; omega)]
theorem nWd {g m : vS} (p : Int32) : (X_X11_needWord g p = 0 ∧ V_X12_isBetween m p 0 99 = 1) ∨ (X_X11_needWord g p = 2 ∧ V_X12_isBetween m p 0 99 = 0) := by
  unfold X_X11_needWord
  by_cases c1 : p < 0
  · refine Or.inr ⟨if_pos c1, isB0 (by rw [i32_lt, i00] at c1; rw [i00]; omega)⟩
  · rw [if_neg c1]
    rw [i32_lt, i00] at c1
    by_cases c2 : p ≤ 99
    · refine Or.inl ⟨if_pos c2, isB1 (by rw [i32_le, show (99 : Int32).toInt = 99 from by decide] at c2; rw [i00, show (99 : Int32).toInt = 99 from by decide]; omega)⟩
    · refine Or.inr ⟨if_neg c2, isB0 (by rw [i32_le, show (99 : Int32).toInt = 99 from by decide] at c2; rw [i00, show (99 : Int32).toInt = 99 from by decide]; omega)⟩
theorem eL {n : Nat} {g m : vS} (h : vInv n g m) : m 11 0 0 = g 4 0 0 := (h.1 (4, 11) (by decide) 0 0).symm
theorem bL {n : Nat} {g m : vS} (h : vInv n g m) : 0 ≤ (g 4 0 0).toInt ∧ (g 4 0 0).toInt ≤ 300 := by
  obtain ⟨hE, -, -, -, -, -, -, -, -, -, -, hL, -⟩ := h
  exact hL
theorem nLv {n : Nat} {g m : vS} (h : vInv n g m) (x : Int32) : (X_X11_needLeaves g x = 0 ∧ V_X12_isBetween m x 0 (m 11 0 0) = 1 ∧ 0 ≤ x.toInt ∧ x.toInt ≤ (g 4 0 0).toInt) ∨ (X_X11_needLeaves g x = 2 ∧ V_X12_isBetween m x 0 (m 11 0 0) = 0) := by
  rw [eL h]
  unfold X_X11_needLeaves V_X5_count
  by_cases c1 : x < 0
  · refine Or.inr ⟨if_pos c1, isB0 (by rw [i32_lt, i00] at c1; rw [i00]; omega)⟩
  · rw [if_neg c1]
    rw [i32_lt, i00] at c1
    by_cases c2 : x ≤ g 4 0 0
    · refine Or.inl ⟨if_pos c2, isB1 (by rw [i32_le] at c2; rw [i00]; omega), by omega, i32_le.mp c2⟩
    · refine Or.inr ⟨if_neg c2, isB0 (by rw [i32_le] at c2; rw [i00]; omega)⟩
theorem isW0 {g : vS} : V_X12_isWrong g 0 = 0 := rfl
theorem isW1 {g : vS} : V_X12_isWrong g 1 = 1 := rfl
theorem isW2 {g : vS} : V_X12_isWrong g 2 = 1 := rfl
theorem isW3 {g : vS} : V_X12_isWrong g 3 = 1 := rfl
theorem isW4 {g : vS} : V_X12_isWrong g 4 = 1 := rfl
theorem pz_ro {α : Type} {n : Nat} {g m S : vS} {k K : Int32} {X : Nat} {V W : α} (h : vInv n g m) (hS : S = s3 m 1 0 0 k) (hK : K = k) (hV : X = 0 → V = W) : K = S 1 0 0 ∧ (X = 0 → V = W) ∧ vInv (n + 1) g S ∧ vPh g ≤ vPh g ∧ vPb m ≤ vPb S ∧ vPw m ≤ vPw S := by
  subst hS
  refine ⟨by rw [hK, s3_s], hV, vInv_w h, Nat.le_refl _, Nat.le_of_eq (vPb_k (fun _ _ => s3_k (by decide))).symm, Nat.le_of_eq (vPw_k (fun _ _ => s3_k (by decide))).symm⟩
