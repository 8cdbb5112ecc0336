theorem bf42_g {g : vS} {x : UInt32} : ∀ (k i : Nat) (a : Int32) (b : UInt32), VL_X11_bitsOfFloat_42 g x k i a b = VL_X11_bitsOfFloat_42 vS0 0 k i a b := by
  intro k
  induction k with
  | zero => intro i a b; rfl
  | succ k ih => intro i a b; unfold VL_X11_bitsOfFloat_42; rw [ih]
theorem bf15_g {g : vS} {x : UInt32} : ∀ (k i : Nat) (a : Int32) (b : UInt32), VL_X11_bitsOfFloat_15 g x k i a b = VL_X11_bitsOfFloat_15 vS0 0 k i a b := by
  intro k
  induction k with
  | zero => intro i a b; rfl
  | succ k ih => intro i a b; unfold VL_X11_bitsOfFloat_15; rw [ih, bf42_g]
def bF (x : UInt32) : Int32 := if 0 < (Op.cmpValue (FP.fcmp x FP.fconst0) .l) then VL_X11_bitsOfFloat_15 vS0 0 (127 + 1) 0 127 x else 0
theorem bF_e {g : vS} {x : UInt32} : V_X11_bitsOfFloat g x = bF x := by
  unfold V_X11_bitsOfFloat bF
  rw [bf15_g]
set_option maxRecDepth 100000 in
theorem bF_dec : ∀ q : Fin 41, 1 ≤ q.val → ∀ p : Fin 41, p.val ≤ q.val → bF (FP.fdiv (FP.i2f (nI p.val)) (FP.i2f (nI q.val))) = V_Jxf58ca_floatToIntBits_5c35a vS0 (FP.fdiv (FP.i2f (nI p.val)) (FP.i2f (nI q.val))) := by decide +kernel
theorem pz_loadBits : PZ_loadBits vInv := by
  intro n g m h hn x
  have e49 := vE_ h (a := 41) (b := 49) (by decide)
  rcases nG h x with ⟨a1, a2, a3, a4, a5, a6, a7⟩ | ⟨a1, a2, -⟩
  · have hG := h.2.2.2.2.1
    have q1 := (hG.2.2.2.1 x.toNatClampNeg (by omega)).2.2.1
    have q2 := hG.2.2.2.2.1 x.toNatClampNeg
    have pI : V_X12_partsIn (S_X12_isWrong m 0) x = V_X11_partsOf g x.toNatClampNeg := (partsIn_w (m := m) (fun _ _ => s3_k (by decide)) (fun _ _ => s3_k (by decide)) (fun _ _ => s3_k (by decide))).trans (partsE h a3 a4)
    have P : ∃ p : Nat, V_X11_partsOf g x.toNatClampNeg = nI p ∧ (p : Int) ≤ (g 41 x.toNatClampNeg 0).toInt := by
      obtain ⟨-, -, -, -, hG, -, -, hF, -, -, -, -, -, -, -, hQ, -⟩ := h
      exact ⟨_, poC_e hG hF (by omega), (rQ_n hG hF).mp hQ _ (by omega)⟩
    obtain ⟨p, p1, p2⟩ := P
    have c : ¬ g 41 x.toNatClampNeg 0 ≤ 0 := by rw [i32_le, i00]; omega
    have eq := q_nI (x := g 41 x.toNatClampNeg 0) (by omega)
    have tq := tnI (x := g 41 x.toNatClampNeg 0) (by omega)
    refine pz_ro h (k := 0) ?_ ?_ ?_
    · simp only [S_X12_loadBits, S_X12_load, a2, S_X12_isWrong, ↓reduceIte, d10]
    · simp only [X_X11_loadBits, a1, ↓reduceIte]; rfl
    · intro _
      have w1 : V_X11_loadBits g x = bF (FP.fdiv (FP.i2f (nI p)) (FP.i2f (g 41 x.toNatClampNeg 0))) := by
        simp only [V_X11_loadBits, V_X11_usedShare, a1, c, p1, bF_e, ↓reduceIte]
      have w2 : V_X12_loadBits m x = V_Jxf58ca_floatToIntBits_5c35a vS0 (FP.fdiv (FP.i2f (nI p)) (FP.i2f (g 41 x.toNatClampNeg 0))) := by
        have l1 : V_X12_load m x = FP.fdiv (FP.i2f (nI p)) (FP.i2f (g 41 x.toNatClampNeg 0)) := by
          simp only [V_X12_load, a2, pI, p1, e49, ↓reduceIte, d10]
        have l2 : S_X12_load m x 1 0 0 ≤ 0 := by
          simp only [S_X12_load, a2, ↓reduceIte, d10]
          rw [show S_X12_isWrong m 0 1 0 0 = 0 from s3_s]; decide
        unfold V_X12_loadBits
        rw [if_pos l2, l1]; rfl
      rw [w1, w2, ← eq]
      exact bF_dec ⟨(g 41 x.toNatClampNeg 0).toNatClampNeg, by omega⟩ (by show 1 ≤ (g 41 x.toNatClampNeg 0).toNatClampNeg; omega) ⟨p, by omega⟩ (by show p ≤ (g 41 x.toNatClampNeg 0).toNatClampNeg; omega)
  · refine pz_ro h (k := 1) ?_ ?_ ?_
    · simp only [S_X12_loadBits, S_X12_load, a2, S_X12_isWrong, ↓reduceIte]
    · simp only [X_X11_loadBits, a1, n10, ↓reduceIte]; rfl
    · intro q; exact absurd q (by simp only [X_X11_loadBits, a1, n10, ↓reduceIte]; decide)
