theorem k64 : FP.Core.b64.qmin = -1074 ∧ FP.Core.b64.qmax = 971 ∧ FP.Core.b64.p = 53 ∧ FP.Core.b64.tails = 4503599627370496 ∧ FP.Core.b64.exps = 2048 := by decide +kernel
theorem p52 : (2 : Nat) ^ 52 = 4503599627370496 := by decide
theorem p53 : (2 : Nat) ^ 53 = 9007199254740992 := by decide
theorem cmp_ite (a b : Int) : compare a b = if a < b then .lt else if a = b then .eq else .gt := rfl
theorem sg_f (c : Nat) : FP.Core.signed false c = (c : Int) := rfl
theorem qu_e {c d : Nat} {q r : Int} (hd : d ≠ 0) : FP.Core.quotient FP.Core.b64 (.fin false c q) (.fin false d r) = FP.Core.roundRatio FP.Core.b64 false c d (q - r) := by
  have e : FP.Core.quotient FP.Core.b64 (.fin false c q) (.fin false d r) = if d = 0 then (if c = 0 then FP.Core.Datum.nan else FP.Core.Datum.inf (false != false)) else FP.Core.roundRatio FP.Core.b64 false c d (q - r) := rfl
  rw [e, if_neg hd]
theorem enc_e {c : Nat} {q : Int} : FP.Core.encode FP.Core.b64 (.fin false c q) = if c < FP.Core.b64.tails then FP.Core.assemble FP.Core.b64 false 0 c else FP.Core.assemble FP.Core.b64 false ((q - FP.Core.b64.qmin).toNat + 1) (c - FP.Core.b64.tails) := rfl
theorem v64_2 : FP.Core.val64 4611686018427387904 = .fin false (4503599627370496) (-51) := by decide +kernel
theorem v64_1 : FP.Core.val64 FP.dconst1 = .fin false (4503599627370496) (-52) := by decide +kernel
theorem v64_0 : FP.Core.val64 FP.dconst0 = .fin false 0 (-1074) := by decide +kernel
theorem v64_52 : FP.Core.val64 4841369599423283200 = .fin false (4503599627370496) 0 := by decide +kernel
theorem fits_n {c : Nat} {q : Int} (h1 : 4503599627370496 ≤ c) (h2 : c < 9007199254740992) (q1 : -1074 ≤ q) (q2 : q ≤ 971) : FP.Core.fits FP.Core.b64 (.fin false c q) := by
  obtain ⟨a, b, d, e, -⟩ := k64
  refine ⟨?_, ?_, ?_, Or.inr ?_⟩
  · rw [d, p53]; exact h2
  · rw [a]; exact q1
  · rw [b]; exact q2
  · rw [e]; exact h1
/-- exact: what is rounded is a number of the format -/
theorem rr_e {A B c : Nat} {e q : Int} (hB : 0 < B) (h1 : 4503599627370496 ≤ c) (h2 : c < 9007199254740992) (q1 : -1074 ≤ q) (q2 : q ≤ 971) (h : A * 2 ^ (e - q).toNat = c * B * 2 ^ (q - e).toNat) : FP.Core.roundRatio FP.Core.b64 false A B e = .fin false c q :=
  FP.Core.roundRatio_exact FP.Core.good_b64 hB (fits_n h1 h2 q1 q2) h
theorem d_half {x : UInt64} {c : Nat} {q : Int} (hx : FP.Core.val64 x = .fin false c q) (h1 : 4503599627370496 ≤ c) (h2 : c < 9007199254740992) (q1 : -1073 ≤ q) (q2 : q ≤ 971) : FP.Core.val64 (FP.ddiv x 4611686018427387904) = .fin false c (q - 1) := by
  have e : FP.Core.val64 (FP.ddiv x 4611686018427387904) = _ := FP.Core.val64_ddiv x 4611686018427387904
  rw [e, hx, v64_2]
  rw [qu_e (by decide)]
  refine rr_e (by decide) h1 h2 (by omega) (by omega) ?_
  rw [show (q - -51 - (q - 1)).toNat = 52 from by omega, show (q - 1 - (q - -51)).toNat = 0 from by omega, Nat.pow_zero, Nat.mul_one, p52]
theorem d_dbl {x : UInt64} {c : Nat} {q : Int} (hx : FP.Core.val64 x = .fin false c q) (h1 : 4503599627370496 ≤ c) (h2 : c < 9007199254740992) (q1 : -1074 ≤ q) (q2 : q ≤ 970) : FP.Core.val64 (FP.dmul x 4611686018427387904) = .fin false c (q + 1) := by
  have e : FP.Core.val64 (FP.dmul x 4611686018427387904) = _ := FP.Core.val64_dmul x 4611686018427387904
  rw [e, hx, v64_2]
  have e2 : FP.Core.round FP.Core.b64 (FP.Core.exactProduct (.fin false c q) (.fin false 4503599627370496 (-51))) = FP.Core.roundRatio FP.Core.b64 false (c * 4503599627370496) 1 (q + (-51)) := rfl
  rw [e2]
  refine rr_e (by decide) h1 h2 (by omega) (by omega) ?_
  rw [show (q + -51 - (q + 1)).toNat = 0 from by omega, show (q + 1 - (q + -51)).toNat = 52 from by omega, Nat.pow_zero, Nat.mul_one, Nat.mul_one, p52]
theorem ord_e {c d : Nat} {q r : Int} : FP.Core.order (.fin false c q) (.fin false d r) = some (compare (FP.Core.inUnits c q (min q r) : Int) (FP.Core.inUnits d r (min q r) : Int)) := rfl
theorem iu_0 {c : Nat} {q : Int} : FP.Core.inUnits c q q = c := by
  unfold FP.Core.inUnits
  rw [show (q - q).toNat = 0 from by omega, Nat.pow_zero, Nat.mul_one]
theorem ord_lt {c : Nat} {q r : Int} (h2 : c < 9007199254740992) (h : q < r) : FP.Core.order (.fin false c q) (.fin false 4503599627370496 r) = some .lt := by
  rw [ord_e, Int.min_eq_left (by omega), iu_0]
  obtain ⟨k, hk⟩ : ∃ k, (r - q).toNat = k + 1 := ⟨(r - q).toNat - 1, by omega⟩
  have e2 : 9007199254740992 ≤ FP.Core.inUnits 4503599627370496 r q := by
    unfold FP.Core.inUnits
    rw [hk, Nat.pow_succ]
    have := Nat.two_pow_pos k
    omega
  generalize FP.Core.inUnits 4503599627370496 r q = D at e2
  rw [cmp_ite, if_pos (by omega)]
theorem ord_ge {c : Nat} {q r : Int} (h1 : 4503599627370496 ≤ c) (h : r ≤ q) : FP.Core.order (.fin false c q) (.fin false 4503599627370496 r) = some .eq ∨ FP.Core.order (.fin false c q) (.fin false 4503599627370496 r) = some .gt := by
  have e1 : 4503599627370496 ≤ FP.Core.inUnits c q r := by
    unfold FP.Core.inUnits
    exact Nat.le_trans h1 (Nat.le_mul_of_pos_right _ (Nat.two_pow_pos _))
  rw [ord_e, Int.min_eq_right h, iu_0]
  generalize FP.Core.inUnits c q r = D at e1
  rw [cmp_ite, if_neg (by omega)]
  by_cases z : (D : Int) = ((4503599627370496 : Nat) : Int)
  · rw [if_pos z]; exact Or.inl rfl
  · rw [if_neg z]; exact Or.inr rfl
theorem cmp_2 {x : UInt64} {c : Nat} {q : Int} (hx : FP.Core.val64 x = .fin false c q) (h1 : 4503599627370496 ≤ c) (h2 : c < 9007199254740992) : (Op.cmpValue (FP.dcmp x 4611686018427387904) .l < 0) ↔ q ≤ -52 := by
  have e : FP.dcmp x 4611686018427387904 = FP.Core.order (FP.Core.val64 x) (FP.Core.val64 4611686018427387904) := rfl
  rw [e, hx, v64_2]
  by_cases c0 : q < -51
  · rw [ord_lt h2 c0]
    exact ⟨fun _ => by omega, fun _ => by decide⟩
  · rcases ord_ge h1 (show -51 ≤ q from by omega) with z | z <;> rw [z] <;> exact ⟨fun w => absurd w (by decide), fun w => by omega⟩
theorem cmp_1 {x : UInt64} {c : Nat} {q : Int} (hx : FP.Core.val64 x = .fin false c q) (h1 : 4503599627370496 ≤ c) (h2 : c < 9007199254740992) : (0 ≤ Op.cmpValue (FP.dcmp x FP.dconst1) .g) ↔ -52 ≤ q := by
  have e : FP.dcmp x FP.dconst1 = FP.Core.order (FP.Core.val64 x) (FP.Core.val64 FP.dconst1) := rfl
  rw [e, hx, v64_1]
  by_cases c0 : q < -52
  · rw [ord_lt h2 c0]
    exact ⟨fun w => absurd w (by decide), fun w => by omega⟩
  · rcases ord_ge h1 (show -52 ≤ q from by omega) with z | z <;> rw [z] <;> exact ⟨fun w => by omega, fun w => by decide⟩
theorem norm_ex {M : Nat} (h0 : 1 ≤ M) (h1 : M < 9007199254740992) : ∃ k, k ≤ 52 ∧ 4503599627370496 ≤ M * 2 ^ k ∧ M * 2 ^ k < 9007199254740992 := by
  have a := Nat.log2_self_le (n := M) (by omega)
  have b := Nat.lt_log2_self (n := M)
  have l : M.log2 ≤ 52 := by
    have t := Nat.lt_of_le_of_lt a h1
    rw [← p53] at t
    have := (Nat.pow_lt_pow_iff_right (a := 2) (by decide)).mp t
    omega
  refine ⟨52 - M.log2, by omega, ?_, ?_⟩
  · have := Nat.mul_le_mul_right (2 ^ (52 - M.log2)) a
    rw [← Nat.pow_add, show M.log2 + (52 - M.log2) = 52 from by omega, p52] at this
    exact this
  · have := Nat.mul_lt_mul_of_pos_right b (Nat.two_pow_pos (52 - M.log2))
    rw [← Nat.pow_add, show M.log2 + 1 + (52 - M.log2) = 53 from by omega, p53] at this
    exact this
theorem toL_M {M : Nat} (h : M < 9007199254740992) {c : Nat} {q : Int} (hd : FP.Core.truncate false c q = (M : Int)) : FP.Core.toL (.fin false c q) = Int64.ofInt (M : Int) := by
  have e : FP.Core.toL (.fin false c q) = Int64.ofInt (max (-2 ^ 63 : Int) (min (2 ^ 63 - 1 : Int) (FP.Core.truncate false c q))) := rfl
  rw [e, hd]
  congr 1
  omega
theorem i64_M {M : Nat} (h : M < 9007199254740992) {d : FP.Core.Datum} (hd : (∃ q : Int, d = .fin false 0 q ∧ M = 0) ∨ (∃ k : Nat, d = .fin false (M * 2 ^ k) (-(k : Int)))) : FP.Core.toL d = Int64.ofInt (M : Int) := by
  rcases hd with ⟨q, rfl, h0⟩ | ⟨k, rfl⟩
  · refine toL_M h ?_
    have e : FP.Core.truncate false 0 q = ((0 * 2 ^ q.toNat / 2 ^ (-q).toNat : Nat) : Int) := rfl
    rw [e, h0, Nat.zero_mul, Nat.zero_div]
  · refine toL_M h ?_
    have e : FP.Core.truncate false (M * 2 ^ k) (-(k : Int)) = ((M * 2 ^ k * 2 ^ (-(k : Int)).toNat / 2 ^ (-(-(k : Int))).toNat : Nat) : Int) := rfl
    rw [e, show (-(k : Int)).toNat = 0 from by omega, show (-(-(k : Int))).toNat = k from by omega, Nat.pow_zero, Nat.mul_one, Nat.mul_div_cancel _ (Nat.two_pow_pos k)]
theorem d_frac {x : UInt64} {c : Nat} (hx : FP.Core.val64 x = .fin false c (-52)) (h1 : 4503599627370496 ≤ c) (h2 : c < 9007199254740992) : FP.d2l (FP.dmul (FP.dsub x FP.dconst1) 4841369599423283200) = Int64.ofInt ((c - 4503599627370496 : Nat) : Int) := by
  have e1 : FP.Core.val64 (FP.dsub x FP.dconst1) = _ := FP.Core.val64_dsub x FP.dconst1
  have e2 : FP.Core.val64 (FP.dmul (FP.dsub x FP.dconst1) 4841369599423283200) = _ := FP.Core.val64_dmul (FP.dsub x FP.dconst1) 4841369599423283200
  have e3 : FP.d2l (FP.dmul (FP.dsub x FP.dconst1) 4841369599423283200) = FP.Core.toL (FP.Core.val64 (FP.dmul (FP.dsub x FP.dconst1) 4841369599423283200)) := rfl
  obtain ⟨k1, k2, k3, k4, -⟩ := k64
  have ro : ∀ (c : Nat) (q : Int), FP.Core.round FP.Core.b64 (.fin false c q) = FP.Core.roundRatio FP.Core.b64 false c 1 q := fun _ _ => rfl
  have pr : ∀ (c : Nat) (q : Int), FP.Core.exactProduct (.fin false c q) (.fin false 4503599627370496 0) = .fin false (c * 4503599627370496) (q + 0) := fun _ _ => rfl
  have s0 : ∀ d : Nat, FP.Core.exactSum (.fin false c (-52)) (FP.Core.negate (.fin false d (-52))) = .fin (FP.Core.sumSign false true ((c : Int) + -(d : Int))) ((c : Int) + -(d : Int)).natAbs (-52) := fun d => by
    have e : FP.Core.exactSum (.fin false c (-52)) (FP.Core.negate (.fin false d (-52))) = .fin (FP.Core.sumSign false true ((FP.Core.inUnits c (-52) (min (-52) (-52)) : Int) + -(FP.Core.inUnits d (-52) (min (-52) (-52)) : Int))) ((FP.Core.inUnits c (-52) (min (-52) (-52)) : Int) + -(FP.Core.inUnits d (-52) (min (-52) (-52)) : Int)).natAbs (min (-52) (-52)) := rfl
    rw [e, show (min (-52 : Int) (-52)) = -52 from by decide, iu_0, iu_0]
  have s1 : FP.Core.exactSum (.fin false c (-52)) (FP.Core.negate (.fin false 4503599627370496 (-52))) = .fin false (c - 4503599627370496) (-52) := by
    rw [s0]
    have sg : FP.Core.sumSign false true ((c : Int) + -((4503599627370496 : Nat) : Int)) = false := by
      unfold FP.Core.sumSign
      split
      · rfl
      · exact decide_eq_false (by omega)
    rw [sg, show ((c : Int) + -((4503599627370496 : Nat) : Int)).natAbs = c - 4503599627370496 from by omega]
  have mb : c - 4503599627370496 < 9007199254740992 := by omega
  rw [e3, e2, e1, hx, v64_1, s1, v64_52, ro]
  have hd : ∃ M, M = c - 4503599627370496 := ⟨_, rfl⟩
  obtain ⟨M, hM⟩ := hd
  rw [← hM] at mb ⊢
  refine i64_M mb ?_
  by_cases z : M = 0
  · refine Or.inl ⟨-1074, ?_, z⟩
    have r0 : ∀ e, FP.Core.roundRatio FP.Core.b64 false 0 1 e = .fin false 0 (-1074) := fun e => by
      unfold FP.Core.roundRatio
      rw [if_pos rfl, k1]
    rw [z, r0, pr, ro, Nat.zero_mul]
    exact r0 _
  · obtain ⟨k, l1, l2, l3⟩ := norm_ex (M := M) (by omega) mb
    refine Or.inr ⟨k, ?_⟩
    have r1 : FP.Core.roundRatio FP.Core.b64 false M 1 (-52) = .fin false (M * 2 ^ k) (-52 - (k : Int)) := by
      refine rr_e (by decide) l2 l3 (by omega) (by omega) ?_
      rw [show (-52 - (-52 - (k : Int))).toNat = k from by omega, show (-52 - (k : Int) - -52).toNat = 0 from by omega, Nat.pow_zero, Nat.mul_one, Nat.mul_one]
    rw [r1, pr, ro]
    refine rr_e (by decide) l2 l3 (by omega) (by omega) ?_
    rw [show (-52 - (k : Int) + 0 - -(k : Int)).toNat = 0 from by omega, show (-(k : Int) - (-52 - (k : Int) + 0)).toNat = 52 from by omega, Nat.pow_zero, Nat.mul_one, Nat.mul_one, p52]
/-- what the loops give: exponent and fraction side by side -/
def bD (E : Int) (M : Nat) : Int64 := (Int64.ofInt E <<< ((52 : Int32).toInt64 &&& 63)) ||| Int64.ofInt (M : Int)
theorem a64 {a : Int64} (h0 : -9000 ≤ a.toInt) (h1 : a.toInt ≤ 9000) : (a + 1).toInt = a.toInt + 1 ∧ (a - 1).toInt = a.toInt - 1 := by
  have k : (1 : Int64).toInt = 1 := by decide
  constructor
  · rw [Int64.toInt_add, k]; exact Int.bmod_eq_of_le (by omega) (by omega)
  · rw [Int64.toInt_sub, k]; exact Int.bmod_eq_of_le (by omega) (by omega)
theorem bd55 {g : vS} {x : UInt64} {c : Nat} (h1 : 4503599627370496 ≤ c) (h2 : c < 9007199254740992) : ∀ (n i : Nat) (a : Int64) (b : UInt64) (q : Int), 1023 ≤ i + n → i ≤ 1022 → FP.Core.val64 b = .fin false c q → q ≤ -52 → -1074 ≤ q → (i : Int) + (-52 - q) ≤ 1022 → -9000 ≤ a.toInt + q → a.toInt ≤ 6000 → -3000 ≤ a.toInt + (i : Int) →
    VL_X11_bitsOfDouble_55 g x n i a b = bD (a.toInt + q + 52) (c - 4503599627370496) := by
  intro n
  induction n with
  | zero => intro i a b q hn hi; exfalso; omega
  | succ n ih =>
    intro i a b q hn hi hb q0 q1 hq ha ha1 ha2
    unfold VL_X11_bitsOfDouble_55
    have fin : q = -52 → (a <<< ((52 : Int32).toInt64 &&& 63)) ||| (FP.d2l (FP.dmul (FP.dsub b FP.dconst1) 4841369599423283200)) = bD (a.toInt + q + 52) (c - 4503599627370496) := fun z => by
      subst z
      rw [d_frac hb h1 h2]
      unfold bD
      rw [show a.toInt + -52 + 52 = a.toInt from by omega, Int64.ofInt_toInt]
    rw [show (1022 : Int32) = nI 1022 from rfl]
    by_cases d : 1022 ≤ i
    · rw [if_pos (pLe (by omega) (by omega) d)]
      exact fin (by omega)
    · rw [if_neg (nLe (by omega) (by omega) d)]
      by_cases e : -52 ≤ q
      · rw [if_pos ((cmp_1 hb h1 h2).mpr e)]
        exact fin (by omega)
      · rw [if_neg (fun z => e ((cmp_1 hb h1 h2).mp z))]
        have s := (a64 (a := a) (by omega) (by omega)).2
        rw [ih (i + 1) (a - 1) _ (q + 1) (by omega) (by omega) (d_dbl hb h1 h2 q1 (by omega)) (by omega) (by omega) (by omega) (by rw [s]; omega) (by rw [s]; omega) (by rw [s]; omega), s, show a.toInt - 1 + (q + 1) + 52 = a.toInt + q + 52 from by omega]
theorem bd18 {g : vS} {x : UInt64} {c : Nat} (h1 : 4503599627370496 ≤ c) (h2 : c < 9007199254740992) : ∀ (n i : Nat) (a : Int64) (b : UInt64) (q : Int), 1024 ≤ i + n → i ≤ 1023 → FP.Core.val64 b = .fin false c q → q ≤ 971 → -1074 ≤ q → (i : Int) + (q + 52) ≤ 1023 → (0 < i → -52 ≤ q) → a.toInt = 1023 + (i : Int) →
    VL_X11_bitsOfDouble_18 g x n i a b = bD (a.toInt + q + 52) (c - 4503599627370496) := by
  intro n
  induction n with
  | zero => intro i a b q hn hi; exfalso; omega
  | succ n ih =>
    intro i a b q hn hi hb q0 q1 hq hi0 ha
    unfold VL_X11_bitsOfDouble_18
    rw [show (1023 : Int32) = nI 1023 from rfl]
    have down : q ≤ -52 → VL_X11_bitsOfDouble_55 g x (1022 + 1) 0 a b = bD (a.toInt + q + 52) (c - 4503599627370496) := fun z => bd55 h1 h2 _ _ _ _ q (by omega) (by omega) hb z q1 (by omega) (by omega) (by omega) (by omega)
    by_cases d : 1023 ≤ i
    · rw [if_pos (pLe (by omega) (by omega) d)]
      exact down (by omega)
    · rw [if_neg (nLe (by omega) (by omega) d)]
      by_cases e : q ≤ -52
      · rw [if_pos ((cmp_2 hb h1 h2).mpr e)]
        exact down e
      · rw [if_neg (fun z => e ((cmp_2 hb h1 h2).mp z))]
        have s := (a64 (a := a) (by omega) (by omega)).1
        rw [ih (i + 1) (a + 1) _ (q - 1) (by omega) (by omega) (d_half hb h1 h2 (by omega) q0) (by omega) (by omega) (by omega) (fun _ => by omega) (by rw [s]; omega), s, show a.toInt + 1 + (q - 1) + 52 = a.toInt + q + 52 from by omega]
/-- the bits of a normal double -/
theorem bD_bits {x : UInt64} {c : Nat} {q : Int} (hx : FP.Core.val64 x = .fin false c q) (h1 : 4503599627370496 ≤ c) (h2 : c < 9007199254740992) (q1 : -1074 ≤ q) (q2 : q ≤ 971) : bD (1023 + q + 52) (c - 4503599627370496) = x.toInt64 := by
  obtain ⟨k1, k2, k3, k4, k5⟩ := k64
  have hw : FP.Core.of64 (FP.Core.val64 x) = x := FP.Core.of64_val64 (by rw [hx]; intro z; cases z)
  have hn : x.toNat = (q + 1075).toNat * 4503599627370496 + (c - 4503599627370496) := by
    rw [← hw, hx]
    unfold FP.Core.of64
    rw [enc_e, k4, if_neg (by omega : ¬ c < 4503599627370496)]
    unfold FP.Core.assemble
    rw [k4, k5, k1]
    rw [UInt64.toNat_ofNat']
    rw [show (false.toNat) = 0 from rfl, Nat.zero_mul, Nat.zero_add, show (q - -1074).toNat + 1 = (q + 1075).toNat from by omega]
    exact Nat.mod_eq_of_lt (by omega)
  apply Int64.toBitVec_inj.mp
  apply BitVec.eq_of_toNat_eq
  have s52 : (((52 : Int32).toInt64 &&& 63) : Int64).toBitVec.smod 64 = 52#64 := by decide
  have e1 : (bD (1023 + q + 52) (c - 4503599627370496)).toBitVec = (BitVec.ofInt 64 (1023 + q + 52)) <<< (52#64) ||| BitVec.ofInt 64 ((c - 4503599627370496 : Nat) : Int) := by
    rw [← s52]; rfl
  rw [e1, BitVec.toNat_or, BitVec.shiftLeft_eq', BitVec.toNat_shiftLeft, BitVec.toNat_ofInt, BitVec.toNat_ofInt]
  show _ = x.toNat
  rw [hn]
  have p64 : ((2 ^ 64 : Nat) : Int) = 18446744073709551616 := by decide
  have hM : ∃ M, M = c - 4503599627370496 ∧ M < 4503599627370496 := ⟨_, rfl, by omega⟩
  obtain ⟨M, hM, hM2⟩ := hM
  rw [← hM, p64, Int.emod_eq_of_lt (by omega) (by omega), Int.emod_eq_of_lt (Int.natCast_nonneg M) (by omega), Int.toNat_natCast, show (1023 + q + 52).toNat = (q + 1075).toNat from by omega]
  have hE : (q + 1075).toNat < 2048 := by omega
  generalize (q + 1075).toNat = E at hE
  rw [show (52#64).toNat = 52 from rfl, Nat.mod_eq_of_lt (by rw [Nat.shiftLeft_eq]; omega), ← Nat.shiftLeft_add_eq_or_of_lt (by omega), Nat.shiftLeft_eq]
theorem i2d_n {t : Int32} (h0 : 1 ≤ t.toInt) (h1 : t.toInt < 2 ^ 31) : ∃ k : Nat, k ≤ 52 ∧ 4503599627370496 ≤ t.toInt.toNat * 2 ^ k ∧ t.toInt.toNat * 2 ^ k < 9007199254740992 ∧ FP.Core.val64 (FP.i2d t) = .fin false (t.toInt.toNat * 2 ^ k) (-(k : Int)) := by
  obtain ⟨k, l1, l2, l3⟩ := norm_ex (M := t.toInt.toNat) (by omega) (by omega)
  refine ⟨k, l1, l2, l3, ?_⟩
  have e : FP.Core.val64 (FP.i2d t) = _ := FP.Core.val64_i2d t
  rw [e]
  show FP.Core.roundRatio FP.Core.b64 (decide (t.toInt < 0)) t.toInt.natAbs 1 0 = _
  rw [decide_eq_false (by omega), show t.toInt.natAbs = t.toInt.toNat from by omega]
  refine rr_e (by decide) l2 l3 (by omega) (by omega) ?_
  rw [show (0 - -(k : Int)).toNat = k from by omega, show (-(k : Int) - 0).toNat = 0 from by omega, Nat.pow_zero, Nat.mul_one, Nat.mul_one]
theorem lead_b {A B : Nat} (a0 : 1 ≤ A) (a1 : A < 2 ^ 31) (b0 : 1 ≤ B) (b1 : B < 2 ^ 31) : -33 ≤ FP.Core.leading A B ∧ FP.Core.leading A B ≤ 31 := by
  have la : A.log2 ≤ 30 := by
    have := Nat.lt_of_le_of_lt (Nat.log2_self_le (n := A) (by omega)) a1
    have := (Nat.pow_lt_pow_iff_right (a := 2) (by decide)).mp this
    omega
  have lb : B.log2 ≤ 30 := by
    have := Nat.lt_of_le_of_lt (Nat.log2_self_le (n := B) (by omega)) b1
    have := (Nat.pow_lt_pow_iff_right (a := 2) (by decide)).mp this
    omega
  unfold FP.Core.leading
  simp only []
  split <;> omega
/-- a quotient of whole numbers is a normal double -/
theorem div_n {t u : Int32} (t0 : 1 ≤ t.toInt) (u0 : 1 ≤ u.toInt) : ∃ (c : Nat) (q : Int), FP.Core.val64 (FP.ddiv (FP.i2d t) (FP.i2d u)) = .fin false c q ∧ 4503599627370496 ≤ c ∧ c < 9007199254740992 ∧ -100 ≤ q ∧ q ≤ 100 := by
  have t1 := Int32.toInt_lt t
  have u1 := Int32.toInt_lt u
  obtain ⟨k, -, l2, l3, l4⟩ := i2d_n t0 (by omega)
  obtain ⟨j, -, m2, m3, m4⟩ := i2d_n u0 (by omega)
  obtain ⟨k1, k2, k3, k4, k5⟩ := k64
  have e : FP.Core.val64 (FP.ddiv (FP.i2d t) (FP.i2d u)) = _ := FP.Core.val64_ddiv (FP.i2d t) (FP.i2d u)
  rw [l4, m4] at e
  have T : 1 ≤ t.toInt.toNat ∧ t.toInt.toNat < 2 ^ 31 := by omega
  have U : 1 ≤ u.toInt.toNat ∧ u.toInt.toNat < 2 ^ 31 := by omega
  generalize t.toInt.toNat = A at *
  generalize u.toInt.toNat = B at *
  have hB : 0 < B * 2 ^ j := by omega
  have e2 : FP.Core.quotient FP.Core.b64 (.fin false (A * 2 ^ k) (-(k : Int))) (.fin false (B * 2 ^ j) (-(j : Int))) = FP.Core.roundRatio FP.Core.b64 false A B 0 := by
    rw [qu_e (by omega)]
    refine FP.Core.roundRatio_congr hB (by omega) ?_
    have x1 : (-(k : Int) - -(j : Int) - 0).toNat = j - k := by omega
    have x2 : (0 - (-(k : Int) - -(j : Int))).toNat = k - j := by omega
    rw [x1, x2]
    have p : 2 ^ k * 2 ^ (j - k) = 2 ^ j * 2 ^ (k - j) := by
      rw [← Nat.pow_add, ← Nat.pow_add]
      congr 1
      omega
    calc A * 2 ^ k * B * 2 ^ (j - k) = A * B * (2 ^ k * 2 ^ (j - k)) := by ac_rfl
      _ = A * B * (2 ^ j * 2 ^ (k - j)) := by rw [p]
      _ = A * (B * 2 ^ j) * 2 ^ (k - j) := by ac_rfl
  rw [e2] at e
  have lb := lead_b T.1 T.2 U.1 U.2
  have Q : FP.Core.quantum FP.Core.b64 A B 0 = FP.Core.leading A B - 52 := by
    unfold FP.Core.quantum
    rw [k1, k3]
    omega
  have nb := FP.Core.quantum_not_below (f := FP.Core.b64) (A := A) (B := B) (by omega) (by omega) 0
  have nu := FP.Core.nearest_units_le (f := FP.Core.b64) (A := A) (B := B) (by omega) (by omega) 0
  have lo : 4503599627370496 ≤ FP.Core.nearest (FP.Core.unitsNum A 0 (FP.Core.quantum FP.Core.b64 A B 0)) (FP.Core.unitsDen B 0 (FP.Core.quantum FP.Core.b64 A B 0)) := by
    refine FP.Core.nearest_ge (FP.Core.unitsDen_pos (by omega) _ _) ?_
    rcases nb with z | z
    · rw [Q, k1] at z; omega
    · rw [k3, show ((53 : Nat) : Int) - 1 = ((52 : Nat) : Int) from by omega, ← FP.Core.units_below] at z
      exact Nat.le_of_not_lt z
  have f : FP.Core.roundRatio FP.Core.b64 false A B 0 = FP.Core.settle FP.Core.b64 false (FP.Core.nearest (FP.Core.unitsNum A 0 (FP.Core.quantum FP.Core.b64 A B 0)) (FP.Core.unitsDen B 0 (FP.Core.quantum FP.Core.b64 A B 0))) (FP.Core.quantum FP.Core.b64 A B 0) := by
    unfold FP.Core.roundRatio
    rw [if_neg (by omega)]
    rfl
  rw [f] at e
  generalize FP.Core.nearest (FP.Core.unitsNum A 0 (FP.Core.quantum FP.Core.b64 A B 0)) (FP.Core.unitsDen B 0 (FP.Core.quantum FP.Core.b64 A B 0)) = C at e lo nu
  rw [Q] at e
  unfold FP.Core.settle FP.Core.bound at e
  rw [k3, k4, k2] at e
  by_cases s : C < 9007199254740992
  · rw [if_pos s, if_pos (by omega)] at e
    exact ⟨C, _, e, lo, s, by omega, by omega⟩
  · rw [if_neg s, if_pos (by omega)] at e
    exact ⟨4503599627370496, _, e, Nat.le_refl _, by decide, by omega, by omega⟩
theorem cmp_0 {x : UInt64} {c : Nat} {q : Int} (hx : FP.Core.val64 x = .fin false c q) (h1 : 4503599627370496 ≤ c) : 0 < Op.cmpValue (FP.dcmp x FP.dconst0) .l := by
  have e : FP.dcmp x FP.dconst0 = FP.Core.order (FP.Core.val64 x) (FP.Core.val64 FP.dconst0) := rfl
  rw [e, hx, v64_0]
  have p : 0 < FP.Core.inUnits c q (min q (-1074)) := by
    unfold FP.Core.inUnits
    exact Nat.mul_pos (by omega) (Nat.two_pow_pos _)
  have z : FP.Core.inUnits 0 (-1074) (min q (-1074)) = 0 := Nat.zero_mul _
  have o : FP.Core.order (.fin false c q) (.fin false 0 (-1074)) = some .gt := by
    rw [ord_e, z]
    generalize FP.Core.inUnits c q (min q (-1074)) = D at p
    rw [cmp_ite, if_neg (by omega), if_neg (by omega)]
  rw [o]; decide
theorem div_0 {u : Int32} (u0 : 1 ≤ u.toInt) : FP.ddiv (FP.i2d 0) (FP.i2d u) = 0 := by
  have u1 := Int32.toInt_lt u
  obtain ⟨j, -, m2, m3, m4⟩ := i2d_n u0 (by omega)
  obtain ⟨k1, -⟩ := k64
  have e : FP.Core.val64 (FP.ddiv (FP.i2d 0) (FP.i2d u)) = _ := FP.Core.val64_ddiv (FP.i2d 0) (FP.i2d u)
  have z : FP.Core.val64 (FP.i2d 0) = .fin false 0 (-1074) := by decide +kernel
  rw [z, m4] at e
  have e2 : FP.Core.quotient FP.Core.b64 (.fin false 0 (-1074)) (.fin false (u.toInt.toNat * 2 ^ j) (-(j : Int))) = .fin false 0 (-1074) := by
    rw [qu_e (by omega)]
    unfold FP.Core.roundRatio
    rw [if_pos rfl, k1]
  rw [e2] at e
  have w : FP.Core.of64 (FP.Core.val64 (FP.ddiv (FP.i2d 0) (FP.i2d u))) = FP.ddiv (FP.i2d 0) (FP.i2d u) := FP.Core.of64_val64 (by rw [e]; intro q; cases q)
  rw [← w, e]
  decide +kernel
theorem meanE {g h : vS} {t u : Int32} (t0 : 0 ≤ t.toInt) (u0 : 1 ≤ u.toInt) : V_X11_bitsOfDouble g (FP.ddiv (FP.i2d t) (FP.i2d u)) = V_Jxe99ae_doubleToLongBits_ccdee h (FP.ddiv (FP.i2d t) (FP.i2d u)) := by
  unfold V_Jxe99ae_doubleToLongBits_ccdee V_Jxe99ae_isNaN_b9ae7
  by_cases z : t = 0
  · subst z
    rw [div_0 u0]
    have c1 : ¬ 0 < Op.cmpValue (FP.dcmp 0 FP.dconst0) .l := by decide +kernel
    have c2 : (if Op.cmpValue (FP.dcmp 0 0) .l = 0 then (0 : Int32) else 1) = 0 := by decide +kernel
    unfold V_X11_bitsOfDouble
    rw [if_neg c1, if_pos c2]; rfl
  · have t1 : 1 ≤ t.toInt := by
      have : t.toInt ≠ 0 := fun e => z (Int32.toInt_inj.mp (by rw [e]; rfl))
      omega
    obtain ⟨c, q, hx, h1, h2, q1, q2⟩ := div_n t1 u0
    have nn : Op.cmpValue (FP.dcmp (FP.ddiv (FP.i2d t) (FP.i2d u)) (FP.ddiv (FP.i2d t) (FP.i2d u))) .l = 0 := dcmp_l (fn64_iff.mpr (by rw [hx]; intro q; cases q))
    generalize FP.ddiv (FP.i2d t) (FP.i2d u) = x at hx nn
    rw [nn, if_pos rfl, if_pos rfl]
    unfold V_X11_bitsOfDouble
    rw [if_pos (cmp_0 hx h1)]
    refine (bd18 h1 h2 (1023 + 1) 0 1023 x q (by omega) (by omega) hx (by omega) (by omega) (by omega) (fun w => absurd w (Nat.lt_irrefl _)) (by decide)).trans ?_
    rw [show (1023 : Int64).toInt = 1023 from by decide]
    exact bD_bits hx h1 h2 (by omega) (by omega)
theorem pz_meanToldBits : PZ_meanToldBits vInv := by
  intro n g m h hn
  have e9 := vE_ h (a := 8) (b := 9) (by decide)
  have e10 := vE_ h (a := 9) (b := 10) (by decide)
  have hN : 0 ≤ (g 9 0 0).toInt ∧ 0 ≤ (g 8 0 0).toInt := by
    obtain ⟨-, -, -, -, -, -, -, -, -, -, -, -, -, -, -, -, -, -, -, -, hN⟩ := h
    exact ⟨hN.2.2.1, hN.2.2.2.1⟩
  by_cases c : g 9 0 0 = 0
  · have c2 : g 9 0 0 ≤ 0 := by rw [c]; decide
    have hX : X_X11_meanToldBits g = 6 := by unfold X_X11_meanToldBits; rw [if_pos c]
    rw [hX]
    exact pz_ro h (k := 1) (by simp only [S_X12_meanToldBits, S_X12_meanTold, e10, c2, S_X12_isWrong, ↓reduceIte]) rfl (fun q => absurd q (by decide))
  · have c3 : 1 ≤ (g 9 0 0).toInt := by
      have : (g 9 0 0).toInt ≠ 0 := fun e => c (Int32.toInt_inj.mp (by rw [e]; rfl))
      omega
    have c2 : ¬ g 9 0 0 ≤ 0 := by rw [i32_le, i00]; omega
    have hX : X_X11_meanToldBits g = 0 := by unfold X_X11_meanToldBits; rw [if_neg c]
    rw [hX]
    refine pz_ro h (k := 0) (by simp only [S_X12_meanToldBits, S_X12_meanTold, e10, c2, S_X12_isWrong, ↓reduceIte]) rfl (fun _ => ?_)
    have w1 : V_X11_meanToldBits g = V_X11_bitsOfDouble g (FP.ddiv (FP.i2d (g 8 0 0)) (FP.i2d (g 9 0 0))) := by
      simp only [V_X11_meanToldBits, V_X10_meanFiles, c, ↓reduceIte]
    have l2 : S_X12_meanTold m 1 0 0 ≤ 0 := by
      simp only [S_X12_meanTold, e10, c2, ↓reduceIte]
      rw [show S_X12_isWrong m 0 1 0 0 = 0 from s3_s]; decide
    have w2 : V_X12_meanToldBits m = V_Jxe99ae_doubleToLongBits_ccdee (S_X12_meanTold m) (FP.ddiv (FP.i2d (g 8 0 0)) (FP.i2d (g 9 0 0))) := by
      unfold V_X12_meanToldBits
      rw [if_pos l2]
      simp only [V_X12_meanTold, e9, e10, c2, ↓reduceIte]
    rw [w1, w2]
    exact meanE hN.2 c3
