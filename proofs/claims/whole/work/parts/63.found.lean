abbrev cF (g : vS) (f : Nat) : Nat := (List.range f).countP (fun q => g 72 q 0 != 0)
theorem cF_s {g : vS} {f : Nat} : cF g (f + 1) = cF g f + if g 72 f 0 = 0 then 0 else 1 := by
  unfold cF
  rw [List.range_succ, List.countP_append]
  by_cases c : g 72 f 0 = 0
  · rw [if_pos c, List.countP_cons, List.countP_nil, c]; rfl
  · rw [if_neg c, List.countP_cons, List.countP_nil, if_pos (bne_iff_ne.mpr c)]
theorem cF_le {g : vS} {a : Nat} : ∀ b, a ≤ b → cF g a ≤ cF g b := by
  intro b
  induction b with
  | zero => intro h; rw [Nat.le_zero.mp h]; exact Nat.le_refl _
  | succ b ih =>
    intro h
    by_cases c : a = b + 1
    · rw [c]; exact Nat.le_refl _
    · have := ih (by omega); rw [cF_s]; omega
theorem cF_ex {g : vS} {X : Nat} : ∀ n, X < cF g n → ∃ f, f < n ∧ g 72 f 0 ≠ 0 ∧ cF g f = X := by
  intro n
  induction n with
  | zero => intro h; exact absurd h (Nat.not_lt_zero _)
  | succ n ih =>
    intro h
    by_cases c : X < cF g n
    · obtain ⟨f, a, b, d⟩ := ih c
      exact ⟨f, by omega, b, d⟩
    · rw [cF_s] at h
      by_cases z : g 72 n 0 = 0
      · rw [if_pos z] at h; omega
      · rw [if_neg z] at h; exact ⟨n, by omega, z, by omega⟩
theorem cF_20 {g : vS} : ∀ n, cF g n ≤ n := fun n => by
  have := List.countP_le_length (p := fun q => g 72 q 0 != 0) (l := List.range n)
  rw [List.length_range] at this
  exact this
theorem foundA {m : vS} {x : Int32} {f X : Nat} (hx : x = nI X) (hf : f < 20) (h7 : m 72 f 0 ≠ 0) (hX : cF m f = X) : ∀ (k i : Nat), i + k = 21 → i ≤ f → VL_X12_foundAt_7 m x k i (-1) (nI (X - cF m i)) = nI f ∧ SL_X12_foundAt_7 m x k i (-1) (nI (X - cF m i)) = S_X12_isWrong m 0 := by
  have hX2 : X ≤ 20 := by have := cF_20 (g := m) f; omega
  have x0 : ¬ x < 0 := by rw [hx, i32_lt, i00, nI_toInt (by omega)]; omega
  intro k
  induction k with
  | zero => intro i h1 h2; omega
  | succ k ih =>
    intro i h1 h2
    have ei : (nI i).toInt = (i : Int) := nI_toInt (by omega)
    have c1 : ¬ (0 : Int32) ≤ -1 := by decide
    have c2 : ¬ 20 ≤ nI i := by rw [i32_le, ei, show (20 : Int32).toInt = 20 from by decide]; omega
    have le := cF_le (g := m) f h2
    unfold VL_X12_foundAt_7 SL_X12_foundAt_7
    rw [if_neg x0, if_neg c1, if_neg c2, if_neg x0, if_neg c1, if_neg c2]
    by_cases c3 : m 72 i 0 = 0
    · have hi : i < f := by
        rcases Nat.lt_or_ge i f with q | q
        · exact q
        · have : i = f := by omega
          rw [this] at c3; exact absurd c3 h7
      have r := ih (i + 1) (by omega) (by omega)
      rw [cF_s, if_pos c3, Nat.add_zero] at r
      simp only [if_pos c3, Int32.sub_zero]
      exact r
    · simp only [if_neg c3]
      by_cases c4 : X - cF m i = 0
      · have hi : i = f := by
          rcases Nat.lt_or_ge i f with q | q
          · have := cF_le (g := m) f q
            rw [cF_s, if_neg c3] at this; omega
          · omega
        have c5 : nI (X - cF m i) = 0 := by rw [c4]; rfl
        have c6 : (0 : Int32) ≤ nI i := by rw [i32_le, i00, ei]; omega
        rw [if_pos c5, if_pos c5]
        obtain ⟨k, rfl⟩ : ∃ j, k = j + 1 := ⟨k - 1, by omega⟩
        unfold VL_X12_foundAt_7 SL_X12_foundAt_7
        rw [if_neg x0, if_pos c6, if_pos c6, if_neg x0, if_pos c6, if_pos c6, hi]
        exact ⟨rfl, rfl⟩
      · have c5 : ¬ nI (X - cF m i) = 0 := fun q => by
          have := congrArg Int32.toInt q
          rw [nI_toInt (by omega), i00] at this; omega
        have hi : i < f := by
          rcases Nat.lt_or_ge i f with q | q
          · exact q
          · have : i = f := by omega
            rw [this] at c4; omega
        have r := ih (i + 1) (by omega) (by omega)
        rw [cF_s, if_neg c3] at r
        have le2 := cF_le (g := m) f hi
        rw [cF_s, if_neg c3] at le2
        have e : nI (X - cF m i) - 1 = nI (X - (cF m i + 1)) := by
          rw [show (1 : Int32) = nI 1 from rfl, qnI_sub (by omega), Nat.sub_sub]
        rw [if_neg c5, if_neg c5, e]
        exact r
theorem foundB {m : vS} {x : Int32} {X : Nat} (hx : x = nI X) (hXb : X < 2147483648) (hX : cF m 20 ≤ X) : ∀ (k i : Nat), i + k = 21 → i ≤ 20 → VL_X12_foundAt_7 m x k i (-1) (nI (X - cF m i)) = 0 ∧ SL_X12_foundAt_7 m x k i (-1) (nI (X - cF m i)) = S_X12_isWrong m 1 := by
  have x0 : ¬ x < 0 := by rw [hx, i32_lt, i00, nI_toInt (by omega)]; omega
  have c1 : ¬ (0 : Int32) ≤ -1 := by decide
  intro k
  induction k with
  | zero => intro i h1 h2; omega
  | succ k ih =>
    intro i h1 h2
    have ei : (nI i).toInt = (i : Int) := nI_toInt (by omega)
    unfold VL_X12_foundAt_7 SL_X12_foundAt_7
    rw [if_neg x0, if_neg c1, if_neg x0, if_neg c1]
    by_cases c2 : 20 ≤ nI i
    · rw [if_pos c2, if_pos c2, if_neg c1, if_neg c1]; exact ⟨rfl, rfl⟩
    · rw [if_neg c2, if_neg c2]
      rw [i32_le, ei, show (20 : Int32).toInt = 20 from by decide] at c2
      have le := cF_le (g := m) (a := i + 1) 20 (by omega)
      have r := ih (i + 1) (by omega) (by omega)
      by_cases c3 : m 72 i 0 = 0
      · rw [cF_s, if_pos c3, Nat.add_zero] at r
        simp only [if_pos c3, Int32.sub_zero]
        exact r
      · rw [cF_s, if_neg c3] at r le
        have c5 : ¬ nI (X - cF m i) = 0 := fun q => by
          have := congrArg Int32.toInt q
          rw [nI_toInt (by omega), i00] at this; omega
        have e : nI (X - cF m i) - 1 = nI (X - (cF m i + 1)) := by
          rw [show (1 : Int32) = nI 1 from rfl, qnI_sub (by omega), Nat.sub_sub]
        simp only [if_neg c3, if_neg c5, e]
        exact r
theorem pz_foundAt : PZ_foundAt vInv := by
  intro n g m h hn x
  have e72 := vE_ h (a := 72) (b := 72) (by decide)
  have hX := h.2.2.2.2.2.2.2.2.2.2.2.2.2.2.2.2.2.1
  have ec : ∀ f, cF m f = cF g f := fun f => by unfold cF; simp only [e72]
  obtain ⟨x1, x2, x3⟩ := hX
  have c20 := cF_20 (g := g) 20
  have x2 : (g 16 0 0).toInt = (cF g 20 : Int) := x2
  by_cases c : x < 0
  · have hV : X_X11_foundAt g x = 5 := by unfold X_X11_foundAt; rw [if_pos c]
    have hS : S_X12_foundAt m x = S_X12_isWrong m 1 := by
      unfold S_X12_foundAt SL_X12_foundAt_7
      rw [if_pos c, if_neg (by decide)]
    rw [hV]
    exact pz_ro h (k := 1) hS rfl (fun q => absurd q (by decide))
  · have x0 : 0 ≤ x.toInt := by rw [i32_lt, i00] at c; omega
    have ex := q_nI x0
    have tx := tnI x0
    have zx : nI (x.toNatClampNeg - cF m 0) = x := by rw [show cF m 0 = 0 from rfl, Nat.sub_zero, ex]
    by_cases d : x.toNatClampNeg < cF g 20
    · obtain ⟨f, f1, f2, f3⟩ := cF_ex 20 d
      have r := foundA (m := m) ex.symm f1 (by rw [e72]; exact f2) (by rw [ec]; exact f3) 21 0 (by omega) (by omega)
      rw [zx] at r
      have hV : X_X11_foundAt g x = 0 := by
        unfold X_X11_foundAt V_X10_foundCount
        rw [if_neg c, if_pos (by rw [i32_lt]; omega)]
      rw [hV]
      refine pz_ro h (k := 0) r.2 rfl (fun _ => ?_)
      unfold V_X11_foundAt V_X10_foundCount V_X10_foundFile
      rw [if_neg c, if_pos (by rw [i32_lt]; omega), if_neg c, if_neg (by rw [i32_le, show (20 : Int32).toInt = 20 from by decide]; omega), x3 _ f f1 f2 f3.symm]
      exact r.1.symm
    · have r := foundB (m := m) ex.symm (by have := Int32.toInt_lt x; omega) (by rw [ec]; omega) 21 0 (by omega) (by omega)
      rw [zx] at r
      have hV : X_X11_foundAt g x = 5 := by
        unfold X_X11_foundAt V_X10_foundCount
        rw [if_neg c, if_neg (by rw [i32_lt]; omega)]
      rw [hV]
      exact pz_ro h (k := 1) r.2 rfl (fun q => absurd q (by decide))
