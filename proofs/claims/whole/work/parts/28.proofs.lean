
theorem dep_unf {g : vS} {n : Nat} {y x : Int32} : VR_X12_depth g (n + 1) y x = (if y = 1 then 0 else (if (V_X12_half g (y)) ≤ x then (1 + (VR_X12_depth g n ((y - (V_X12_half g (y)))) ((x - (V_X12_half g (y)))))) else (1 + (VR_X12_depth g n ((V_X12_half g (y))) (x))))) := rfl
theorem pre_unf {g : vS} {n : Nat} {x y zz : Int32} : VR_X12_prefixMany g (n + 1) x y zz = (if x = y then (if zz = 0 then 1 else 0) else (if (V_X12_half g (y)) < x then (1 + (VR_X12_prefixMany g n ((x - (V_X12_half g (y)))) ((y - (V_X12_half g (y)))) (0))) else (1 + (VR_X12_prefixMany g n (x) ((V_X12_half g (y))) (zz))))) := rfl
theorem dep_fuel {g : vS} : ∀ (n n' : Nat) (y x : Int32), 1 ≤ y.toInt → y.toInt ≤ 300 → y.toInt ≤ ((n : Nat) : Int) → y.toInt ≤ ((n' : Nat) : Int) → VR_X12_depth g n y x = VR_X12_depth g n' y x ∧ 0 ≤ (VR_X12_depth g n y x).toInt ∧ (VR_X12_depth g n y x).toInt < y.toInt := by
  intro n
  induction n with
  | zero => intro n' y x h1 h2 h3 h4; exfalso; omega
  | succ n ih =>
    intro n' y x h1 h2 h3 h4
    cases n' with
    | zero => exfalso; omega
    | succ n' =>
      have z0 : (0 : Int32).toInt = 0 := by decide
      have z1 : (1 : Int32).toInt = 1 := by decide
      simp only [VR_X12_depth]
      by_cases q : y = 1
      · rw [if_pos q, if_pos q, z0]; exact ⟨rfl, by omega, by omega⟩
      · have q2 : y.toInt ≠ 1 := fun z => q (Int32.toInt_inj.mp (z.trans z1.symm))
        have hk := (ok_half (g := g) (x := y) (by omega) h2).resolve_left (by omega)
        have es : (y - V_X12_half g y).toInt = y.toInt - (V_X12_half g y).toInt := i32_sub (by omega) (by omega)
        rw [if_neg q, if_neg q]
        by_cases c : V_X12_half g y ≤ x
        · rw [if_pos c, if_pos c]
          obtain ⟨e, a, b⟩ := ih n' (y - V_X12_half g y) (x - V_X12_half g y) (by omega) (by omega) (by omega) (by omega)
          have e1 := i32_addn (x := 1) (y := VR_X12_depth g n (y - V_X12_half g y) (x - V_X12_half g y)) (by omega) a (by omega)
          rw [← e]
          exact ⟨rfl, by omega, by omega⟩
        · rw [if_neg c, if_neg c]
          obtain ⟨e, a, b⟩ := ih n' (V_X12_half g y) x (by omega) (by omega) (by omega) (by omega)
          have e1 := i32_addn (x := 1) (y := VR_X12_depth g n (V_X12_half g y) x) (by omega) a (by omega)
          rw [← e]
          exact ⟨rfl, by omega, by omega⟩
theorem dep_g {g g2 : vS} {y x : Int32} : V_X12_depth g y x = V_X12_depth g2 y x := by
  have : ∀ (n : Nat) (y x : Int32), VR_X12_depth g n y x = VR_X12_depth g2 n y x := by
    intro n
    induction n with
    | zero => intro y x; rfl
    | succ n ih =>
      intro y x
      have e : V_X12_half g y = V_X12_half g2 y := half_g _ _
      simp only [VR_X12_depth, e, ih]
  exact this 300 y x
theorem dep_b {g : vS} {y x : Int32} (h1 : 1 ≤ y.toInt) (h2 : y.toInt ≤ 300) : 0 ≤ (V_X12_depth g y x).toInt ∧ (V_X12_depth g y x).toInt < y.toInt := (dep_fuel 300 300 y x h1 h2 (by omega) (by omega)).2
theorem dep_two {g : vS} {y x z : Int32} (y1 : 1 ≤ y.toInt) (z0 : 0 ≤ z.toInt) (zd : z.toInt < (V_X12_depth g y x).toInt) : 2 ≤ y.toInt := by
  by_cases q : y.toInt = 1
  · exfalso
    have e : y = 1 := Int32.toInt_inj.mp (q.trans (by decide))
    subst e
    have e2 : V_X12_depth g 1 x = 0 := by
      show VR_X12_depth g (299 + 1) 1 x = 0
      rw [dep_unf]
      exact if_pos rfl
    rw [e2, show (0 : Int32).toInt = 0 from by decide] at zd
    omega
  · omega
theorem dep_snd {g : vS} {y x z : Int32} (y2 : 2 ≤ y.toInt) (yN : y.toInt ≤ 300) (c : V_X12_half g y ≤ x) (c2 : ¬ z = V_X12_depth g (y - V_X12_half g y) (x - V_X12_half g y)) (zd : z.toInt < (V_X12_depth g y x).toInt) : z.toInt < (V_X12_depth g (y - V_X12_half g y) (x - V_X12_half g y)).toInt := by
  have z1 : (1 : Int32).toInt = 1 := by decide
  have hk := (ok_half (g := g) (x := y) (by omega) yN).resolve_left (by omega)
  have es : (y - V_X12_half g y).toInt = y.toInt - (V_X12_half g y).toInt := i32_sub (by omega) (by omega)
  have q : ¬ y = 1 := fun z => by rw [z, z1] at y2; omega
  have e : V_X12_depth g y x = 1 + V_X12_depth g (y - V_X12_half g y) (x - V_X12_half g y) := by
    show VR_X12_depth g (299 + 1) y x = 1 + VR_X12_depth g 300 (y - V_X12_half g y) (x - V_X12_half g y)
    rw [dep_unf]
    rw [if_neg q, if_pos c, (dep_fuel 299 300 (y - V_X12_half g y) (x - V_X12_half g y) (by omega) (by omega) (by omega) (by omega)).1]
  have b := dep_b (g := g) (y := y - V_X12_half g y) (x := x - V_X12_half g y) (by omega) (by omega)
  have e1 := i32_addn (x := 1) (y := V_X12_depth g (y - V_X12_half g y) (x - V_X12_half g y)) (by omega) b.1 (by omega)
  rw [e, e1] at zd
  have q2 : z.toInt ≠ (V_X12_depth g (y - V_X12_half g y) (x - V_X12_half g y)).toInt := fun z => c2 (Int32.toInt_inj.mp z)
  omega
theorem dep_fst {g : vS} {y x z : Int32} (y2 : 2 ≤ y.toInt) (yN : y.toInt ≤ 300) (c : ¬ V_X12_half g y ≤ x) (c2 : ¬ z = V_X12_depth g (V_X12_half g y) x) (zd : z.toInt < (V_X12_depth g y x).toInt) : z.toInt < (V_X12_depth g (V_X12_half g y) x).toInt := by
  have z1 : (1 : Int32).toInt = 1 := by decide
  have hk := (ok_half (g := g) (x := y) (by omega) yN).resolve_left (by omega)
  have q : ¬ y = 1 := fun z => by rw [z, z1] at y2; omega
  have e : V_X12_depth g y x = 1 + V_X12_depth g (V_X12_half g y) x := by
    show VR_X12_depth g (299 + 1) y x = 1 + VR_X12_depth g 300 (V_X12_half g y) x
    rw [dep_unf]
    rw [if_neg q, if_neg c, (dep_fuel 299 300 (V_X12_half g y) x (by omega) (by omega) (by omega) (by omega)).1]
  have b := dep_b (g := g) (y := V_X12_half g y) (x := x) (by omega) (by omega)
  have e1 := i32_addn (x := 1) (y := V_X12_depth g (V_X12_half g y) x) (by omega) b.1 (by omega)
  rw [e, e1] at zd
  have q2 : z.toInt ≠ (V_X12_depth g (V_X12_half g y) x).toInt := fun z => c2 (Int32.toInt_inj.mp z)
  omega
theorem pre_fuel {g : vS} : ∀ (n n' : Nat) (x y zz : Int32), 1 ≤ x.toInt → x.toInt ≤ y.toInt → y.toInt ≤ 300 → y.toInt ≤ ((n : Nat) : Int) → y.toInt ≤ ((n' : Nat) : Int) → VR_X12_prefixMany g n x y zz = VR_X12_prefixMany g n' x y zz ∧ 0 ≤ (VR_X12_prefixMany g n x y zz).toInt ∧ (VR_X12_prefixMany g n x y zz).toInt ≤ y.toInt := by
  intro n
  induction n with
  | zero => intro n' x y zz h0 h1 h2 h3 h4; exfalso; omega
  | succ n ih =>
    intro n' x y zz h0 h1 h2 h3 h4
    cases n' with
    | zero => exfalso; omega
    | succ n' =>
      have z0 : (0 : Int32).toInt = 0 := by decide
      have z1 : (1 : Int32).toInt = 1 := by decide
      simp only [VR_X12_prefixMany]
      by_cases q : x = y
      · rw [if_pos q, if_pos q]
        refine ⟨rfl, ?_⟩
        split
        · rw [z1]; omega
        · rw [z0]; omega
      · have q2 : x.toInt ≠ y.toInt := fun z => q (Int32.toInt_inj.mp z)
        have hk := (ok_half (g := g) (x := y) (by omega) h2).resolve_left (by omega)
        have es : (y - V_X12_half g y).toInt = y.toInt - (V_X12_half g y).toInt := i32_sub (by omega) (by omega)
        have ex : (x - V_X12_half g y).toInt = x.toInt - (V_X12_half g y).toInt := i32_sub (by omega) (by omega)
        rw [if_neg q, if_neg q]
        by_cases c : V_X12_half g y < x
        · rw [if_pos c, if_pos c]
          rw [Int32.lt_iff_toInt_lt] at c
          obtain ⟨e, a, b⟩ := ih n' (x - V_X12_half g y) (y - V_X12_half g y) 0 (by omega) (by omega) (by omega) (by omega) (by omega)
          have e1 := i32_addn (x := 1) (y := VR_X12_prefixMany g n (x - V_X12_half g y) (y - V_X12_half g y) 0) (by omega) a (by omega)
          rw [← e]
          exact ⟨rfl, by omega, by omega⟩
        · rw [if_neg c, if_neg c]
          rw [Int32.lt_iff_toInt_lt] at c
          obtain ⟨e, a, b⟩ := ih n' x (V_X12_half g y) zz (by omega) (by omega) (by omega) (by omega) (by omega)
          have e1 := i32_addn (x := 1) (y := VR_X12_prefixMany g n x (V_X12_half g y) zz) (by omega) a (by omega)
          rw [← e]
          exact ⟨rfl, by omega, by omega⟩
theorem pre_g {g g2 : vS} {x y zz : Int32} : V_X12_prefixMany g x y zz = V_X12_prefixMany g2 x y zz := by
  have : ∀ (n : Nat) (x y zz : Int32), VR_X12_prefixMany g n x y zz = VR_X12_prefixMany g2 n x y zz := by
    intro n
    induction n with
    | zero => intro x y zz; rfl
    | succ n ih =>
      intro x y zz
      have e : V_X12_half g y = V_X12_half g2 y := half_g _ _
      simp only [VR_X12_prefixMany, e, ih]
  exact this 300 x y zz
theorem pre_b {g : vS} {x y zz : Int32} (h0 : 1 ≤ x.toInt) (h1 : x.toInt ≤ y.toInt) (h2 : y.toInt ≤ 300) : 0 ≤ (V_X12_prefixMany g x y zz).toInt ∧ (V_X12_prefixMany g x y zz).toInt ≤ y.toInt := (pre_fuel 300 300 x y zz h0 h1 h2 (by omega) (by omega)).2
theorem pre_snd {g : vS} {x y zz z : Int32} (x1 : 1 ≤ x.toInt) (xy : x.toInt ≤ y.toInt) (yN : y.toInt ≤ 300) (q : ¬ x = y) (c : V_X12_half g y < x) (c2 : ¬ z = V_X12_prefixMany g (x - V_X12_half g y) (y - V_X12_half g y) 0) (zd : z.toInt < (V_X12_prefixMany g x y zz).toInt) : z.toInt < (V_X12_prefixMany g (x - V_X12_half g y) (y - V_X12_half g y) 0).toInt := by
  have z1 : (1 : Int32).toInt = 1 := by decide
  have q2 : x.toInt ≠ y.toInt := fun z => q (Int32.toInt_inj.mp z)
  have hk := (ok_half (g := g) (x := y) (by omega) yN).resolve_left (by omega)
  have es : (y - V_X12_half g y).toInt = y.toInt - (V_X12_half g y).toInt := i32_sub (by omega) (by omega)
  have ex : (x - V_X12_half g y).toInt = x.toInt - (V_X12_half g y).toInt := i32_sub (by omega) (by omega)
  have c' := c
  rw [Int32.lt_iff_toInt_lt] at c'
  have e : V_X12_prefixMany g x y zz = 1 + V_X12_prefixMany g (x - V_X12_half g y) (y - V_X12_half g y) 0 := by
    show VR_X12_prefixMany g (299 + 1) x y zz = 1 + VR_X12_prefixMany g 300 (x - V_X12_half g y) (y - V_X12_half g y) 0
    rw [pre_unf]
    rw [if_neg q, if_pos c, (pre_fuel 299 300 (x - V_X12_half g y) (y - V_X12_half g y) 0 (by omega) (by omega) (by omega) (by omega) (by omega)).1]
  have b := pre_b (g := g) (x := x - V_X12_half g y) (y := y - V_X12_half g y) (zz := 0) (by omega) (by omega) (by omega)
  have e1 := i32_addn (x := 1) (y := V_X12_prefixMany g (x - V_X12_half g y) (y - V_X12_half g y) 0) (by omega) b.1 (by omega)
  rw [e, e1] at zd
  have q3 : z.toInt ≠ (V_X12_prefixMany g (x - V_X12_half g y) (y - V_X12_half g y) 0).toInt := fun z => c2 (Int32.toInt_inj.mp z)
  omega
theorem pre_fst {g : vS} {x y zz z : Int32} (x1 : 1 ≤ x.toInt) (xy : x.toInt ≤ y.toInt) (yN : y.toInt ≤ 300) (q : ¬ x = y) (c : ¬ V_X12_half g y < x) (c2 : ¬ z = V_X12_prefixMany g x (V_X12_half g y) zz) (zd : z.toInt < (V_X12_prefixMany g x y zz).toInt) : z.toInt < (V_X12_prefixMany g x (V_X12_half g y) zz).toInt := by
  have z1 : (1 : Int32).toInt = 1 := by decide
  have q2 : x.toInt ≠ y.toInt := fun z => q (Int32.toInt_inj.mp z)
  have hk := (ok_half (g := g) (x := y) (by omega) yN).resolve_left (by omega)
  have c' := c
  rw [Int32.lt_iff_toInt_lt] at c'
  have e : V_X12_prefixMany g x y zz = 1 + V_X12_prefixMany g x (V_X12_half g y) zz := by
    show VR_X12_prefixMany g (299 + 1) x y zz = 1 + VR_X12_prefixMany g 300 x (V_X12_half g y) zz
    rw [pre_unf]
    rw [if_neg q, if_neg c, (pre_fuel 299 300 x (V_X12_half g y) zz (by omega) (by omega) (by omega) (by omega) (by omega)).1]
  have b := pre_b (g := g) (x := x) (y := V_X12_half g y) (zz := zz) (by omega) (by omega) (by omega)
  have e1 := i32_addn (x := 1) (y := V_X12_prefixMany g x (V_X12_half g y) zz) (by omega) b.1 (by omega)
  rw [e, e1] at zd
  have q3 : z.toInt ≠ (V_X12_prefixMany g x (V_X12_half g y) zz).toInt := fun z => c2 (Int32.toInt_inj.mp z)
  omega

def VR_X12_proofOf (g : vS) : Nat → Int32 → Int32 → Int32 → Int32 → Int32
  | 0, _, _, _, _ => 0
  | n + 1, a, y, x, z => (if (V_X12_half g (y)) ≤ x then (if z = (V_X12_depth g ((y - (V_X12_half g (y)))) ((x - (V_X12_half g (y))))) then (V_X12_rootOf g (a) ((V_X12_half g (y)))) else (VR_X12_proofOf g n ((a + (V_X12_half g (y)))) ((y - (V_X12_half g (y)))) ((x - (V_X12_half g (y)))) (z))) else (if z = (V_X12_depth g ((V_X12_half g (y))) (x)) then (V_X12_rootOf g ((a + (V_X12_half g (y)))) ((y - (V_X12_half g (y))))) else (VR_X12_proofOf g n (a) ((V_X12_half g (y))) (x) (z))))
set_option maxHeartbeats 4000000 in
set_option maxRecDepth 100000 in
theorem c_X12_proofOf_s {G : vG} (hG : G.1.stackTraces = false) {A : vN → Nat} {g : vS} {r : vH} (n : Nat) (ih : ∀ (a : Int32) (y : Int32) (x : Int32) (z : Int32), y.toInt ≤ ((n : Nat) : Int) → 0 ≤ a.toInt → 1 ≤ y.toInt → a.toInt + y.toInt ≤ 300 → 0 ≤ z.toInt → z.toInt < (V_X12_depth g y x).toInt → vCt G yX12_proofOf cX12_proofOf 8 (some .int) (303 + n) [.ref (A (40, 0)), .int (a), .int (y), .int (x), .int (z)] A (wm g r) (fun v A2 h2 => v = some (.int (VR_X12_proofOf g n a y x z)) ∧ A2 = A ∧ h2 = wm g r) vNoX 0 0) (a : Int32) (y : Int32) (x : Int32) (z : Int32) (h1 : y.toInt ≤ (((n + 1) : Nat) : Int)) (a0 : 0 ≤ a.toInt) (y1 : 1 ≤ y.toInt) (ay : a.toInt + y.toInt ≤ 300) (z0 : 0 ≤ z.toInt) (zd : z.toInt < (V_X12_depth g y x).toInt) : vCt G yX12_proofOf cX12_proofOf 8 (some .int) (303 + (n + 1)) [.ref (A (40, 0)), .int (a), .int (y), .int (x), .int (z)] A (wm g r) (fun v A2 h2 => v = some (.int (VR_X12_proofOf g (n + 1) a y x z)) ∧ A2 = A ∧ h2 = wm g r) (vNoX) 0 0 := by
  refine v_of hG (by decide +kernel) (Nat.le_of_ble_eq_true rfl) (lv := [(0, .ref (A (40, 0))), (1, .int (a)), (2, .int (y)), (3, .int (x)), (4, .int (z))]) rfl (fun X C hnx => ?_)
  have C : vC G X cX12_proofOf 8 RX12 (some .int) "proofOf" (303 + (n + 1)) 0 0 := C
  have y2 := dep_two y1 z0 zd
  refine v_iload_n (pc := 0) C dX12_proofOf_0 2 rfl rfl ?_
  refine v_callS (pc := 1) C (c_X12_half hG (y) (by (try simp only [Int32.le_iff_toInt_le, Int32.lt_iff_toInt_lt, ← Int32.toInt_inj, Int32.reduceToInt] at a0 y1 ay y2 z0 h1 ⊢); omega) (by (try simp only [Int32.le_iff_toInt_le, Int32.lt_iff_toInt_lt, ← Int32.toInt_inj, Int32.reduceToInt] at a0 y1 ay y2 z0 h1 ⊢); omega)) 1 wd_1739 wd_68 wd_1737 wd_1738 (by decide +kernel) (by omega) (by decide) rfl ([]) rfl (Nat.le_of_ble_eq_true rfl) (by decide) dX12_proofOf_1 (fun _ _ _ q => q.elim) (fun v9 A9 h9 hR9 => ?_)
  obtain ⟨rfl, hA9, rfl⟩ := hR9
  obtain rfl := hA9.symm
  refine v_st (k2 := 0) (n2 := 0) (st2 := [.int ((V_X12_half g (y)))]) rfl rfl rfl ?_
  have b_1 := ok_half (g := g) (x := y) (by (try simp only [Int32.le_iff_toInt_le, Int32.lt_iff_toInt_lt, ← Int32.toInt_inj, Int32.reduceToInt] at a0 y1 ay y2 z0 h1 ⊢); omega) (by (try simp only [Int32.le_iff_toInt_le, Int32.lt_iff_toInt_lt, ← Int32.toInt_inj, Int32.reduceToInt] at a0 y1 ay y2 z0 h1 ⊢); omega)
  refine v_istore (lv2 := [(5, .int ((V_X12_half g (y)))), (0, .ref (A (40, 0))), (1, .int (a)), (2, .int (y)), (3, .int (x)), (4, .int (z))]) (pc := 4) C dX12_proofOf_4 (by decide) rfl ?_
  refine v_iload_n (pc := 6) C dX12_proofOf_6 4 rfl rfl ?_
  refine v_iload (pc := 7) C dX12_proofOf_7 0 rfl ?_
  refine v_icmp_ge (pc := 9) (tgt := 16) C dX12_proofOf_9 (by decide) (fun c_2 => ?_) (fun c_2 => ?_)
  · skip
    refine v_iconst (v := 0) (pc := 16) C dX12_proofOf_16 rfl ?_
    refine v_istore (lv2 := [(6, .int (0)), (5, .int ((V_X12_half g (y)))), (0, .ref (A (40, 0))), (1, .int (a)), (2, .int (y)), (3, .int (x)), (4, .int (z))]) (pc := 17) C dX12_proofOf_17 (by decide) rfl ?_
    refine v_iload (pc := 19) C dX12_proofOf_19 0 rfl ?_
    refine v_if_eq (pc := 21) (tgt := 33) C dX12_proofOf_21 (by decide) (fun c_3 => ?_) (fun c_3 => ?_)
    · skip
      refine v_iload_n (pc := 33) C dX12_proofOf_33 4 rfl rfl ?_
      refine v_iload (pc := 34) C dX12_proofOf_34 1 rfl ?_
      refine v_isub (pc := 36) C dX12_proofOf_36 ?_
      refine v_iload_n (pc := 37) C dX12_proofOf_37 5 rfl rfl ?_
      refine v_iload (pc := 38) C dX12_proofOf_38 1 rfl ?_
      refine v_isub (pc := 40) C dX12_proofOf_40 ?_
      have b_4 : ((y - (V_X12_half g (y)))).toInt = (y).toInt - ((V_X12_half g (y))).toInt := i32_sub (by (try simp only [Int32.le_iff_toInt_le, Int32.lt_iff_toInt_lt, ← Int32.toInt_inj, Int32.reduceToInt] at c_2 c_3 b_1 a0 y1 ay y2 z0 h1); omega) (by (try simp only [Int32.le_iff_toInt_le, Int32.lt_iff_toInt_lt, ← Int32.toInt_inj, Int32.reduceToInt] at c_2 c_3 b_1 a0 y1 ay y2 z0 h1); omega)
      refine v_callS (pc := 41) C (c_X12_depth hG ((y - (V_X12_half g (y)))) ((x - (V_X12_half g (y)))) (by (try simp only [Int32.le_iff_toInt_le, Int32.lt_iff_toInt_lt, ← Int32.toInt_inj, Int32.reduceToInt] at c_2 c_3 b_1 b_4 a0 y1 ay y2 z0 h1 ⊢); omega) (by (try simp only [Int32.le_iff_toInt_le, Int32.lt_iff_toInt_lt, ← Int32.toInt_inj, Int32.reduceToInt] at c_2 c_3 b_1 b_4 a0 y1 ay y2 z0 h1 ⊢); omega) (by (try simp only [Int32.le_iff_toInt_le, Int32.lt_iff_toInt_lt, ← Int32.toInt_inj, Int32.reduceToInt] at c_2 c_3 b_1 b_4 a0 y1 ay y2 z0 h1 ⊢); omega)) 2 wd_1750 wd_68 wd_1748 wd_1749 (by decide +kernel) (by omega) (by decide) rfl ([]) rfl (Nat.le_of_ble_eq_true rfl) (by decide) dX12_proofOf_41 (fun _ _ _ q => q.elim) (fun v9 A9 h9 hR9 => ?_)
      obtain ⟨rfl, hA9, rfl⟩ := hR9
      obtain rfl := hA9.symm
      refine v_st (k2 := 0) (n2 := 0) (st2 := [.int ((V_X12_depth g ((y - (V_X12_half g (y)))) ((x - (V_X12_half g (y))))))]) rfl rfl rfl ?_
      refine v_istore (lv2 := [(7, .int ((V_X12_depth g ((y - (V_X12_half g (y)))) ((x - (V_X12_half g (y))))))), (6, .int (0)), (5, .int ((V_X12_half g (y)))), (0, .ref (A (40, 0))), (1, .int (a)), (2, .int (y)), (3, .int (x)), (4, .int (z))]) (pc := 44) C dX12_proofOf_44 (by decide) rfl ?_
      refine v_iload (pc := 46) C dX12_proofOf_46 7 rfl ?_
      refine v_iload (pc := 48) C dX12_proofOf_48 0 rfl ?_
      refine v_icmp_ne (pc := 50) (tgt := 81) C dX12_proofOf_50 (by decide) (fun c_5 => ?_) (fun c_5 => ?_)
      · skip
        refine v_iload (pc := 81) C dX12_proofOf_81 1 rfl ?_
        refine v_if_eq (pc := 83) (tgt := 99) C dX12_proofOf_83 (by decide) (fun c_6 => ?_) (fun c_6 => ?_)
        · skip
          refine v_aload_n (pc := 99) C dX12_proofOf_99 3 rfl rfl ?_
          refine v_iload_n (pc := 100) C dX12_proofOf_100 4 rfl rfl ?_
          refine v_iload (pc := 101) C dX12_proofOf_101 2 rfl ?_
          refine v_iadd (pc := 103) C dX12_proofOf_103 ?_
          refine v_iload_n (pc := 104) C dX12_proofOf_104 5 rfl rfl ?_
          refine v_iload (pc := 105) C dX12_proofOf_105 2 rfl ?_
          refine v_isub (pc := 107) C dX12_proofOf_107 ?_
          refine v_iload_n (pc := 108) C dX12_proofOf_108 6 rfl rfl ?_
          refine v_iload (pc := 109) C dX12_proofOf_109 2 rfl ?_
          refine v_isub (pc := 111) C dX12_proofOf_111 ?_
          refine v_iload (pc := 112) C dX12_proofOf_112 7 rfl ?_
          have b_7 : ((y - (V_X12_half g (y)))).toInt = (y).toInt - ((V_X12_half g (y))).toInt := i32_sub (by (try simp only [Int32.le_iff_toInt_le, Int32.lt_iff_toInt_lt, ← Int32.toInt_inj, Int32.reduceToInt] at c_2 c_3 c_5 c_6 b_1 b_4 a0 y1 ay y2 z0 h1); omega) (by (try simp only [Int32.le_iff_toInt_le, Int32.lt_iff_toInt_lt, ← Int32.toInt_inj, Int32.reduceToInt] at c_2 c_3 c_5 c_6 b_1 b_4 a0 y1 ay y2 z0 h1); omega)
          have b_8 : ((a + (V_X12_half g (y)))).toInt = (a).toInt + ((V_X12_half g (y))).toInt := i32_addn (by (try simp only [Int32.le_iff_toInt_le, Int32.lt_iff_toInt_lt, ← Int32.toInt_inj, Int32.reduceToInt] at c_2 c_3 c_5 c_6 b_1 b_4 b_7 a0 y1 ay y2 z0 h1); omega) (by (try simp only [Int32.le_iff_toInt_le, Int32.lt_iff_toInt_lt, ← Int32.toInt_inj, Int32.reduceToInt] at c_2 c_3 c_5 c_6 b_1 b_4 b_7 a0 y1 ay y2 z0 h1); omega) (by (try simp only [Int32.le_iff_toInt_le, Int32.lt_iff_toInt_lt, ← Int32.toInt_inj, Int32.reduceToInt] at c_2 c_3 c_5 c_6 b_1 b_4 b_7 a0 y1 ay y2 z0 h1); omega)
          refine v_callV (pc := 114) C (40, 0) ck_40 rfl (ih ((a + (V_X12_half g (y)))) ((y - (V_X12_half g (y)))) ((x - (V_X12_half g (y)))) (z) (by (try simp only [Int32.le_iff_toInt_le, Int32.lt_iff_toInt_lt, ← Int32.toInt_inj, Int32.reduceToInt] at c_2 c_3 c_5 c_6 b_1 b_4 b_7 b_8 a0 y1 ay y2 z0 h1 ⊢); omega) (by (try simp only [Int32.le_iff_toInt_le, Int32.lt_iff_toInt_lt, ← Int32.toInt_inj, Int32.reduceToInt] at c_2 c_3 c_5 c_6 b_1 b_4 b_7 b_8 a0 y1 ay y2 z0 h1 ⊢); omega) (by (try simp only [Int32.le_iff_toInt_le, Int32.lt_iff_toInt_lt, ← Int32.toInt_inj, Int32.reduceToInt] at c_2 c_3 c_5 c_6 b_1 b_4 b_7 b_8 a0 y1 ay y2 z0 h1 ⊢); omega) (by (try simp only [Int32.le_iff_toInt_le, Int32.lt_iff_toInt_lt, ← Int32.toInt_inj, Int32.reduceToInt] at c_2 c_3 c_5 c_6 b_1 b_4 b_7 b_8 a0 y1 ay y2 z0 h1 ⊢); omega) (by (try simp only [Int32.le_iff_toInt_le, Int32.lt_iff_toInt_lt, ← Int32.toInt_inj, Int32.reduceToInt] at c_2 c_3 c_5 c_6 b_1 b_4 b_7 b_8 a0 y1 ay y2 z0 h1 ⊢); omega) (dep_snd y2 (by (try simp only [Int32.le_iff_toInt_le, Int32.lt_iff_toInt_lt, ← Int32.toInt_inj, Int32.reduceToInt] at c_2 c_3 c_5 c_6 b_1 b_4 b_7 b_8 a0 y1 ay y2 z0 h1); omega) c_2 c_5 zd)) 4 wd_1758 wd_68 wd_1755 wd_1757 wd_56 (by decide +kernel) (by omega) (by decide) rfl ([]) rfl (Nat.le_of_ble_eq_true rfl) (by decide) dX12_proofOf_114 (fun _ _ _ q => q.elim) (fun v9 A9 h9 hR9 => ?_)
          obtain ⟨rfl, hA9, rfl⟩ := hR9
          obtain rfl := hA9.symm
          refine v_st (k2 := 0) (n2 := 0) (st2 := [.int ((VR_X12_proofOf g n ((a + (V_X12_half g (y)))) ((y - (V_X12_half g (y)))) ((x - (V_X12_half g (y)))) (z)))]) rfl rfl rfl ?_
          exact v_iret (pc := 117) C (by decide) (by decide) dX12_proofOf_117 ⟨(congrArg (fun q => some (Value.int q)) (by show _ = _; rw [VR_X12_proofOf, if_pos c_2, if_neg c_5])), rfl, rfl⟩
        · skip
          exact absurd c_6 (by decide)
      · skip
        refine v_iload (pc := 53) C dX12_proofOf_53 1 rfl ?_
        refine v_if_eq (pc := 55) (tgt := 73) C dX12_proofOf_55 (by decide) (fun c_9 => ?_) (fun c_9 => ?_)
        · skip
          refine v_aload_n (pc := 73) C dX12_proofOf_73 3 rfl rfl ?_
          refine v_iload_n (pc := 74) C dX12_proofOf_74 4 rfl rfl ?_
          refine v_iload (pc := 75) C dX12_proofOf_75 2 rfl ?_
          refine v_callV (pc := 77) C (40, 0) ck_40 rfl (c_X12_rootOf hG (a) ((V_X12_half g (y))) (by (try simp only [Int32.le_iff_toInt_le, Int32.lt_iff_toInt_lt, ← Int32.toInt_inj, Int32.reduceToInt] at c_2 c_3 c_5 c_9 b_1 b_4 a0 y1 ay y2 z0 h1 ⊢); omega) (by (try simp only [Int32.le_iff_toInt_le, Int32.lt_iff_toInt_lt, ← Int32.toInt_inj, Int32.reduceToInt] at c_2 c_3 c_5 c_9 b_1 b_4 a0 y1 ay y2 z0 h1 ⊢); omega) (by (try simp only [Int32.le_iff_toInt_le, Int32.lt_iff_toInt_lt, ← Int32.toInt_inj, Int32.reduceToInt] at c_2 c_3 c_5 c_9 b_1 b_4 a0 y1 ay y2 z0 h1 ⊢); omega) (by (try simp only [Int32.le_iff_toInt_le, Int32.lt_iff_toInt_lt, ← Int32.toInt_inj, Int32.reduceToInt] at c_2 c_3 c_5 c_9 b_1 b_4 a0 y1 ay y2 z0 h1 ⊢); omega)) 2 wd_1736 wd_68 wd_1733 wd_1735 wd_54 (by decide +kernel) (by omega) (by decide) rfl ([]) rfl (Nat.le_of_ble_eq_true rfl) (by decide) dX12_proofOf_77 (fun _ _ _ q => q.elim) (fun v9 A9 h9 hR9 => ?_)
          obtain ⟨rfl, hA9, rfl⟩ := hR9
          obtain rfl := hA9.symm
          refine v_st (k2 := 0) (n2 := 0) (st2 := [.int ((V_X12_rootOf g (a) ((V_X12_half g (y)))))]) rfl rfl rfl ?_
          exact v_iret (pc := 80) C (by decide) (by decide) dX12_proofOf_80 ⟨(congrArg (fun q => some (Value.int q)) (by show _ = _; rw [VR_X12_proofOf, if_pos c_2, if_pos c_5])), rfl, rfl⟩
        · skip
          exact absurd c_9 (by decide)
    · skip
      exact absurd c_3 (by decide)
  · skip
    refine v_iconst (v := 1) (pc := 12) C dX12_proofOf_12 rfl ?_
    refine v_goto (tgt := 17) (pc := 13) C dX12_proofOf_13 (by decide) ?_
    refine v_istore (lv2 := [(6, .int (1)), (5, .int ((V_X12_half g (y)))), (0, .ref (A (40, 0))), (1, .int (a)), (2, .int (y)), (3, .int (x)), (4, .int (z))]) (pc := 17) C dX12_proofOf_17 (by decide) rfl ?_
    refine v_iload (pc := 19) C dX12_proofOf_19 0 rfl ?_
    refine v_if_eq (pc := 21) (tgt := 33) C dX12_proofOf_21 (by decide) (fun c_10 => ?_) (fun c_10 => ?_)
    · skip
      exact absurd c_10 (by decide)
    · skip
      refine v_iload (pc := 24) C dX12_proofOf_24 1 rfl ?_
      refine v_iload_n (pc := 26) C dX12_proofOf_26 5 rfl rfl ?_
      refine v_callS (pc := 27) C (c_X12_depth hG ((V_X12_half g (y))) (x) (by (try simp only [Int32.le_iff_toInt_le, Int32.lt_iff_toInt_lt, ← Int32.toInt_inj, Int32.reduceToInt] at c_2 c_10 b_1 a0 y1 ay y2 z0 h1 ⊢); omega) (by (try simp only [Int32.le_iff_toInt_le, Int32.lt_iff_toInt_lt, ← Int32.toInt_inj, Int32.reduceToInt] at c_2 c_10 b_1 a0 y1 ay y2 z0 h1 ⊢); omega) (by (try simp only [Int32.le_iff_toInt_le, Int32.lt_iff_toInt_lt, ← Int32.toInt_inj, Int32.reduceToInt] at c_2 c_10 b_1 a0 y1 ay y2 z0 h1 ⊢); omega)) 2 wd_1750 wd_68 wd_1748 wd_1749 (by decide +kernel) (by omega) (by decide) rfl ([]) rfl (Nat.le_of_ble_eq_true rfl) (by decide) dX12_proofOf_27 (fun _ _ _ q => q.elim) (fun v9 A9 h9 hR9 => ?_)
      obtain ⟨rfl, hA9, rfl⟩ := hR9
      obtain rfl := hA9.symm
      refine v_st (k2 := 0) (n2 := 0) (st2 := [.int ((V_X12_depth g ((V_X12_half g (y))) (x)))]) rfl rfl rfl ?_
      refine v_goto (tgt := 44) (pc := 30) C dX12_proofOf_30 (by decide) ?_
      refine v_istore (lv2 := [(7, .int ((V_X12_depth g ((V_X12_half g (y))) (x)))), (6, .int (1)), (5, .int ((V_X12_half g (y)))), (0, .ref (A (40, 0))), (1, .int (a)), (2, .int (y)), (3, .int (x)), (4, .int (z))]) (pc := 44) C dX12_proofOf_44 (by decide) rfl ?_
      refine v_iload (pc := 46) C dX12_proofOf_46 7 rfl ?_
      refine v_iload (pc := 48) C dX12_proofOf_48 0 rfl ?_
      refine v_icmp_ne (pc := 50) (tgt := 81) C dX12_proofOf_50 (by decide) (fun c_11 => ?_) (fun c_11 => ?_)
      · skip
        refine v_iload (pc := 81) C dX12_proofOf_81 1 rfl ?_
        refine v_if_eq (pc := 83) (tgt := 99) C dX12_proofOf_83 (by decide) (fun c_12 => ?_) (fun c_12 => ?_)
        · skip
          exact absurd c_12 (by decide)
        · skip
          refine v_aload_n (pc := 86) C dX12_proofOf_86 3 rfl rfl ?_
          refine v_iload_n (pc := 87) C dX12_proofOf_87 4 rfl rfl ?_
          refine v_iload (pc := 88) C dX12_proofOf_88 2 rfl ?_
          refine v_iload_n (pc := 90) C dX12_proofOf_90 6 rfl rfl ?_
          refine v_iload (pc := 91) C dX12_proofOf_91 7 rfl ?_
          refine v_callV (pc := 93) C (40, 0) ck_40 rfl (ih (a) ((V_X12_half g (y))) (x) (z) (by (try simp only [Int32.le_iff_toInt_le, Int32.lt_iff_toInt_lt, ← Int32.toInt_inj, Int32.reduceToInt] at c_2 c_10 c_11 c_12 b_1 a0 y1 ay y2 z0 h1 ⊢); omega) (by (try simp only [Int32.le_iff_toInt_le, Int32.lt_iff_toInt_lt, ← Int32.toInt_inj, Int32.reduceToInt] at c_2 c_10 c_11 c_12 b_1 a0 y1 ay y2 z0 h1 ⊢); omega) (by (try simp only [Int32.le_iff_toInt_le, Int32.lt_iff_toInt_lt, ← Int32.toInt_inj, Int32.reduceToInt] at c_2 c_10 c_11 c_12 b_1 a0 y1 ay y2 z0 h1 ⊢); omega) (by (try simp only [Int32.le_iff_toInt_le, Int32.lt_iff_toInt_lt, ← Int32.toInt_inj, Int32.reduceToInt] at c_2 c_10 c_11 c_12 b_1 a0 y1 ay y2 z0 h1 ⊢); omega) (by (try simp only [Int32.le_iff_toInt_le, Int32.lt_iff_toInt_lt, ← Int32.toInt_inj, Int32.reduceToInt] at c_2 c_10 c_11 c_12 b_1 a0 y1 ay y2 z0 h1 ⊢); omega) (dep_fst y2 (by (try simp only [Int32.le_iff_toInt_le, Int32.lt_iff_toInt_lt, ← Int32.toInt_inj, Int32.reduceToInt] at c_2 c_10 c_11 c_12 b_1 a0 y1 ay y2 z0 h1); omega) c_2 c_11 zd)) 4 wd_1758 wd_68 wd_1755 wd_1757 wd_56 (by decide +kernel) (by omega) (by decide) rfl ([]) rfl (Nat.le_of_ble_eq_true rfl) (by decide) dX12_proofOf_93 (fun _ _ _ q => q.elim) (fun v9 A9 h9 hR9 => ?_)
          obtain ⟨rfl, hA9, rfl⟩ := hR9
          obtain rfl := hA9.symm
          refine v_st (k2 := 0) (n2 := 0) (st2 := [.int ((VR_X12_proofOf g n (a) ((V_X12_half g (y))) (x) (z)))]) rfl rfl rfl ?_
          refine v_goto (tgt := 117) (pc := 96) C dX12_proofOf_96 (by decide) ?_
          exact v_iret (pc := 117) C (by decide) (by decide) dX12_proofOf_117 ⟨(congrArg (fun q => some (Value.int q)) (by show _ = _; rw [VR_X12_proofOf, if_neg c_2, if_neg c_11])), rfl, rfl⟩
      · skip
        refine v_iload (pc := 53) C dX12_proofOf_53 1 rfl ?_
        refine v_if_eq (pc := 55) (tgt := 73) C dX12_proofOf_55 (by decide) (fun c_13 => ?_) (fun c_13 => ?_)
        · skip
          exact absurd c_13 (by decide)
        · skip
          refine v_aload_n (pc := 58) C dX12_proofOf_58 3 rfl rfl ?_
          refine v_iload_n (pc := 59) C dX12_proofOf_59 4 rfl rfl ?_
          refine v_iload (pc := 60) C dX12_proofOf_60 2 rfl ?_
          refine v_iadd (pc := 62) C dX12_proofOf_62 ?_
          refine v_iload_n (pc := 63) C dX12_proofOf_63 5 rfl rfl ?_
          refine v_iload (pc := 64) C dX12_proofOf_64 2 rfl ?_
          refine v_isub (pc := 66) C dX12_proofOf_66 ?_
          have b_14 : ((y - (V_X12_half g (y)))).toInt = (y).toInt - ((V_X12_half g (y))).toInt := i32_sub (by (try simp only [Int32.le_iff_toInt_le, Int32.lt_iff_toInt_lt, ← Int32.toInt_inj, Int32.reduceToInt] at c_2 c_10 c_11 c_13 b_1 a0 y1 ay y2 z0 h1); omega) (by (try simp only [Int32.le_iff_toInt_le, Int32.lt_iff_toInt_lt, ← Int32.toInt_inj, Int32.reduceToInt] at c_2 c_10 c_11 c_13 b_1 a0 y1 ay y2 z0 h1); omega)
          have b_15 : ((a + (V_X12_half g (y)))).toInt = (a).toInt + ((V_X12_half g (y))).toInt := i32_addn (by (try simp only [Int32.le_iff_toInt_le, Int32.lt_iff_toInt_lt, ← Int32.toInt_inj, Int32.reduceToInt] at c_2 c_10 c_11 c_13 b_1 b_14 a0 y1 ay y2 z0 h1); omega) (by (try simp only [Int32.le_iff_toInt_le, Int32.lt_iff_toInt_lt, ← Int32.toInt_inj, Int32.reduceToInt] at c_2 c_10 c_11 c_13 b_1 b_14 a0 y1 ay y2 z0 h1); omega) (by (try simp only [Int32.le_iff_toInt_le, Int32.lt_iff_toInt_lt, ← Int32.toInt_inj, Int32.reduceToInt] at c_2 c_10 c_11 c_13 b_1 b_14 a0 y1 ay y2 z0 h1); omega)
          refine v_callV (pc := 67) C (40, 0) ck_40 rfl (c_X12_rootOf hG ((a + (V_X12_half g (y)))) ((y - (V_X12_half g (y)))) (by (try simp only [Int32.le_iff_toInt_le, Int32.lt_iff_toInt_lt, ← Int32.toInt_inj, Int32.reduceToInt] at c_2 c_10 c_11 c_13 b_1 b_14 b_15 a0 y1 ay y2 z0 h1 ⊢); omega) (by (try simp only [Int32.le_iff_toInt_le, Int32.lt_iff_toInt_lt, ← Int32.toInt_inj, Int32.reduceToInt] at c_2 c_10 c_11 c_13 b_1 b_14 b_15 a0 y1 ay y2 z0 h1 ⊢); omega) (by (try simp only [Int32.le_iff_toInt_le, Int32.lt_iff_toInt_lt, ← Int32.toInt_inj, Int32.reduceToInt] at c_2 c_10 c_11 c_13 b_1 b_14 b_15 a0 y1 ay y2 z0 h1 ⊢); omega) (by (try simp only [Int32.le_iff_toInt_le, Int32.lt_iff_toInt_lt, ← Int32.toInt_inj, Int32.reduceToInt] at c_2 c_10 c_11 c_13 b_1 b_14 b_15 a0 y1 ay y2 z0 h1 ⊢); omega)) 2 wd_1736 wd_68 wd_1733 wd_1735 wd_54 (by decide +kernel) (by omega) (by decide) rfl ([]) rfl (Nat.le_of_ble_eq_true rfl) (by decide) dX12_proofOf_67 (fun _ _ _ q => q.elim) (fun v9 A9 h9 hR9 => ?_)
          obtain ⟨rfl, hA9, rfl⟩ := hR9
          obtain rfl := hA9.symm
          refine v_st (k2 := 0) (n2 := 0) (st2 := [.int ((V_X12_rootOf g ((a + (V_X12_half g (y)))) ((y - (V_X12_half g (y))))))]) rfl rfl rfl ?_
          refine v_goto (tgt := 80) (pc := 70) C dX12_proofOf_70 (by decide) ?_
          exact v_iret (pc := 80) C (by decide) (by decide) dX12_proofOf_80 ⟨(congrArg (fun q => some (Value.int q)) (by show _ = _; rw [VR_X12_proofOf, if_neg c_2, if_pos c_11])), rfl, rfl⟩
theorem c_X12_proofOf_z {G : vG} (hG : G.1.stackTraces = false) {A : vN → Nat} {g : vS} {r : vH} (a : Int32) (y : Int32) (x : Int32) (z : Int32) (h1 : y.toInt ≤ ((0 : Nat) : Int)) (a0 : 0 ≤ a.toInt) (y1 : 1 ≤ y.toInt) (ay : a.toInt + y.toInt ≤ 300) (z0 : 0 ≤ z.toInt) (zd : z.toInt < (V_X12_depth g y x).toInt) : vCt G yX12_proofOf cX12_proofOf 8 (some .int) (303 + 0) [.ref (A (40, 0)), .int (a), .int (y), .int (x), .int (z)] A (wm g r) (fun v A2 h2 => v = some (.int (VR_X12_proofOf g 0 a y x z)) ∧ A2 = A ∧ h2 = wm g r) (vNoX) 0 0 := by
  exfalso; omega
theorem c_X12_proofOf_n {G : vG} (hG : G.1.stackTraces = false) {A : vN → Nat} {g : vS} {r : vH} : ∀ (n : Nat) (a : Int32) (y : Int32) (x : Int32) (z : Int32), y.toInt ≤ ((n : Nat) : Int) → 0 ≤ a.toInt → 1 ≤ y.toInt → a.toInt + y.toInt ≤ 300 → 0 ≤ z.toInt → z.toInt < (V_X12_depth g y x).toInt → vCt G yX12_proofOf cX12_proofOf 8 (some .int) (303 + n) [.ref (A (40, 0)), .int (a), .int (y), .int (x), .int (z)] A (wm g r) (fun v A2 h2 => v = some (.int (VR_X12_proofOf g n a y x z)) ∧ A2 = A ∧ h2 = wm g r) vNoX 0 0 := by
  intro n
  induction n with
  | zero => intro a y x z h1 a0 y1 ay z0 zd; exact c_X12_proofOf_z hG a y x z h1 a0 y1 ay z0 zd
  | succ n ih => intro a y x z h1 a0 y1 ay z0 zd; exact c_X12_proofOf_s hG n ih a y x z h1 a0 y1 ay z0 zd
def V_X12_proofOf (g : vS) (a : Int32) (y : Int32) (x : Int32) (z : Int32) : Int32 := VR_X12_proofOf g 300 a y x z
theorem c_X12_proofOf {G : vG} (hG : G.1.stackTraces = false) {A : vN → Nat} {g : vS} {r : vH} (a : Int32) (y : Int32) (x : Int32) (z : Int32) (h1 : y.toInt ≤ ((300 : Nat) : Int)) (a0 : 0 ≤ a.toInt) (y1 : 1 ≤ y.toInt) (ay : a.toInt + y.toInt ≤ 300) (z0 : 0 ≤ z.toInt) (zd : z.toInt < (V_X12_depth g y x).toInt) : vCt G yX12_proofOf cX12_proofOf 8 (some .int) 603 [.ref (A (40, 0)), .int (a), .int (y), .int (x), .int (z)] A (wm g r) (fun v A2 h2 => v = some (.int (V_X12_proofOf g a y x z)) ∧ A2 = A ∧ h2 = wm g r) vNoX 0 0 := c_X12_proofOf_n hG 300 a y x z h1 a0 y1 ay z0 zd
def VR_X12_prefixOf (g : vS) : Nat → Int32 → Int32 → Int32 → Int32 → Int32 → Int32
  | 0, _, _, _, _, _ => 0
  | n + 1, a, x, y, zz, z => (if x = y then (V_X12_rootOf g (a) (y)) else (if (V_X12_half g (y)) < x then (if z = (V_X12_prefixMany g ((x - (V_X12_half g (y)))) ((y - (V_X12_half g (y)))) (0)) then (V_X12_rootOf g (a) ((V_X12_half g (y)))) else (VR_X12_prefixOf g n ((a + (V_X12_half g (y)))) ((x - (V_X12_half g (y)))) ((y - (V_X12_half g (y)))) (0) (z))) else (if z = (V_X12_prefixMany g (x) ((V_X12_half g (y))) (zz)) then (V_X12_rootOf g ((a + (V_X12_half g (y)))) ((y - (V_X12_half g (y))))) else (VR_X12_prefixOf g n (a) (x) ((V_X12_half g (y))) (zz) (z)))))
set_option maxHeartbeats 4000000 in
set_option maxRecDepth 100000 in
theorem c_X12_prefixOf_s {G : vG} (hG : G.1.stackTraces = false) {A : vN → Nat} {g : vS} {r : vH} (n : Nat) (ih : ∀ (a : Int32) (x : Int32) (y : Int32) (zz : Int32) (z : Int32), y.toInt ≤ ((n : Nat) : Int) → 0 ≤ a.toInt → 1 ≤ x.toInt → x.toInt ≤ y.toInt → a.toInt + y.toInt ≤ 300 → z.toInt < (V_X12_prefixMany g x y zz).toInt → vCt G yX12_prefixOf cX12_prefixOf 9 (some .int) (303 + n) [.ref (A (40, 0)), .int (a), .int (x), .int (y), .int (zz), .int (z)] A (wm g r) (fun v A2 h2 => v = some (.int (VR_X12_prefixOf g n a x y zz z)) ∧ A2 = A ∧ h2 = wm g r) vNoX 0 0) (a : Int32) (x : Int32) (y : Int32) (zz : Int32) (z : Int32) (h1 : y.toInt ≤ (((n + 1) : Nat) : Int)) (a0 : 0 ≤ a.toInt) (x1 : 1 ≤ x.toInt) (xy : x.toInt ≤ y.toInt) (ay : a.toInt + y.toInt ≤ 300) (zd : z.toInt < (V_X12_prefixMany g x y zz).toInt) : vCt G yX12_prefixOf cX12_prefixOf 9 (some .int) (303 + (n + 1)) [.ref (A (40, 0)), .int (a), .int (x), .int (y), .int (zz), .int (z)] A (wm g r) (fun v A2 h2 => v = some (.int (VR_X12_prefixOf g (n + 1) a x y zz z)) ∧ A2 = A ∧ h2 = wm g r) (vNoX) 0 0 := by
  refine v_of hG (by decide +kernel) (Nat.le_of_ble_eq_true rfl) (lv := [(0, .ref (A (40, 0))), (1, .int (a)), (2, .int (x)), (3, .int (y)), (4, .int (zz)), (5, .int (z))]) rfl (fun X C hnx => ?_)
  have C : vC G X cX12_prefixOf 9 RX12 (some .int) "prefixOf" (303 + (n + 1)) 0 0 := C
  refine v_iload_n (pc := 0) C dX12_prefixOf_0 2 rfl rfl ?_
  refine v_iload_n (pc := 1) C dX12_prefixOf_1 3 rfl rfl ?_
  refine v_icmp_ne (pc := 2) (tgt := 12) C dX12_prefixOf_2 (by decide) (fun c_1 => ?_) (fun c_1 => ?_)
  · skip
    refine v_iload_n (pc := 12) C dX12_prefixOf_12 3 rfl rfl ?_
    refine v_callS (pc := 13) C (c_X12_half hG (y) (by (try simp only [Int32.le_iff_toInt_le, Int32.lt_iff_toInt_lt, ← Int32.toInt_inj, Int32.reduceToInt] at c_1 a0 x1 xy ay h1 ⊢); omega) (by (try simp only [Int32.le_iff_toInt_le, Int32.lt_iff_toInt_lt, ← Int32.toInt_inj, Int32.reduceToInt] at c_1 a0 x1 xy ay h1 ⊢); omega)) 1 wd_1739 wd_68 wd_1737 wd_1738 (by decide +kernel) (by omega) (by decide) rfl ([]) rfl (Nat.le_of_ble_eq_true rfl) (by decide) dX12_prefixOf_13 (fun _ _ _ q => q.elim) (fun v9 A9 h9 hR9 => ?_)
    obtain ⟨rfl, hA9, rfl⟩ := hR9
    obtain rfl := hA9.symm
    refine v_st (k2 := 0) (n2 := 0) (st2 := [.int ((V_X12_half g (y)))]) rfl rfl rfl ?_
    have b_2 := ok_half (g := g) (x := y) (by (try simp only [Int32.le_iff_toInt_le, Int32.lt_iff_toInt_lt, ← Int32.toInt_inj, Int32.reduceToInt] at c_1 a0 x1 xy ay h1 ⊢); omega) (by (try simp only [Int32.le_iff_toInt_le, Int32.lt_iff_toInt_lt, ← Int32.toInt_inj, Int32.reduceToInt] at c_1 a0 x1 xy ay h1 ⊢); omega)
    refine v_istore (lv2 := [(6, .int ((V_X12_half g (y)))), (0, .ref (A (40, 0))), (1, .int (a)), (2, .int (x)), (3, .int (y)), (4, .int (zz)), (5, .int (z))]) (pc := 16) C dX12_prefixOf_16 (by decide) rfl ?_
    refine v_iload_n (pc := 18) C dX12_prefixOf_18 3 rfl rfl ?_
    refine v_iload (pc := 19) C dX12_prefixOf_19 0 rfl ?_
    refine v_icmp_gt (pc := 21) (tgt := 28) C dX12_prefixOf_21 (by decide) (fun c_3 => ?_) (fun c_3 => ?_)
    · skip
      refine v_iconst (v := 0) (pc := 28) C dX12_prefixOf_28 rfl ?_
      refine v_istore (lv2 := [(7, .int (0)), (6, .int ((V_X12_half g (y)))), (0, .ref (A (40, 0))), (1, .int (a)), (2, .int (x)), (3, .int (y)), (4, .int (zz)), (5, .int (z))]) (pc := 29) C dX12_prefixOf_29 (by decide) rfl ?_
      refine v_iload (pc := 31) C dX12_prefixOf_31 0 rfl ?_
      refine v_if_eq (pc := 33) (tgt := 47) C dX12_prefixOf_33 (by decide) (fun c_4 => ?_) (fun c_4 => ?_)
      · skip
        refine v_iload_n (pc := 47) C dX12_prefixOf_47 4 rfl rfl ?_
        refine v_iload (pc := 48) C dX12_prefixOf_48 1 rfl ?_
        refine v_isub (pc := 50) C dX12_prefixOf_50 ?_
        refine v_iload_n (pc := 51) C dX12_prefixOf_51 5 rfl rfl ?_
        refine v_iload (pc := 52) C dX12_prefixOf_52 1 rfl ?_
        refine v_isub (pc := 54) C dX12_prefixOf_54 ?_
        refine v_iconst (v := 0) (pc := 55) C dX12_prefixOf_55 rfl ?_
        have b_5 : ((y - (V_X12_half g (y)))).toInt = (y).toInt - ((V_X12_half g (y))).toInt := i32_sub (by (try simp only [Int32.le_iff_toInt_le, Int32.lt_iff_toInt_lt, ← Int32.toInt_inj, Int32.reduceToInt] at c_1 c_3 c_4 b_2 a0 x1 xy ay h1); omega) (by (try simp only [Int32.le_iff_toInt_le, Int32.lt_iff_toInt_lt, ← Int32.toInt_inj, Int32.reduceToInt] at c_1 c_3 c_4 b_2 a0 x1 xy ay h1); omega)
        have b_6 : ((x - (V_X12_half g (y)))).toInt = (x).toInt - ((V_X12_half g (y))).toInt := i32_sub (by (try simp only [Int32.le_iff_toInt_le, Int32.lt_iff_toInt_lt, ← Int32.toInt_inj, Int32.reduceToInt] at c_1 c_3 c_4 b_2 b_5 a0 x1 xy ay h1); omega) (by (try simp only [Int32.le_iff_toInt_le, Int32.lt_iff_toInt_lt, ← Int32.toInt_inj, Int32.reduceToInt] at c_1 c_3 c_4 b_2 b_5 a0 x1 xy ay h1); omega)
        refine v_callS (pc := 56) C (c_X12_prefixMany hG ((x - (V_X12_half g (y)))) ((y - (V_X12_half g (y)))) (0) (by (try simp only [Int32.le_iff_toInt_le, Int32.lt_iff_toInt_lt, ← Int32.toInt_inj, Int32.reduceToInt] at c_1 c_3 c_4 b_2 b_5 b_6 a0 x1 xy ay h1 ⊢); omega) (by (try simp only [Int32.le_iff_toInt_le, Int32.lt_iff_toInt_lt, ← Int32.toInt_inj, Int32.reduceToInt] at c_1 c_3 c_4 b_2 b_5 b_6 a0 x1 xy ay h1 ⊢); omega) (by (try simp only [Int32.le_iff_toInt_le, Int32.lt_iff_toInt_lt, ← Int32.toInt_inj, Int32.reduceToInt] at c_1 c_3 c_4 b_2 b_5 b_6 a0 x1 xy ay h1 ⊢); omega) (by (try simp only [Int32.le_iff_toInt_le, Int32.lt_iff_toInt_lt, ← Int32.toInt_inj, Int32.reduceToInt] at c_1 c_3 c_4 b_2 b_5 b_6 a0 x1 xy ay h1 ⊢); omega)) 3 wd_1769 wd_68 wd_1767 wd_1768 (by decide +kernel) (by omega) (by decide) rfl ([]) rfl (Nat.le_of_ble_eq_true rfl) (by decide) dX12_prefixOf_56 (fun _ _ _ q => q.elim) (fun v9 A9 h9 hR9 => ?_)
        obtain ⟨rfl, hA9, rfl⟩ := hR9
        obtain rfl := hA9.symm
        refine v_st (k2 := 0) (n2 := 0) (st2 := [.int ((V_X12_prefixMany g ((x - (V_X12_half g (y)))) ((y - (V_X12_half g (y)))) (0)))]) rfl rfl rfl ?_
        refine v_istore (lv2 := [(8, .int ((V_X12_prefixMany g ((x - (V_X12_half g (y)))) ((y - (V_X12_half g (y)))) (0)))), (7, .int (0)), (6, .int ((V_X12_half g (y)))), (0, .ref (A (40, 0))), (1, .int (a)), (2, .int (x)), (3, .int (y)), (4, .int (zz)), (5, .int (z))]) (pc := 59) C dX12_prefixOf_59 (by decide) rfl ?_
        refine v_iload (pc := 61) C dX12_prefixOf_61 8 rfl ?_
        refine v_iload (pc := 63) C dX12_prefixOf_63 0 rfl ?_
        refine v_icmp_ne (pc := 65) (tgt := 96) C dX12_prefixOf_65 (by decide) (fun c_7 => ?_) (fun c_7 => ?_)
        · skip
          refine v_iload (pc := 96) C dX12_prefixOf_96 1 rfl ?_
          refine v_if_eq (pc := 98) (tgt := 116) C dX12_prefixOf_98 (by decide) (fun c_8 => ?_) (fun c_8 => ?_)
          · skip
            refine v_aload_n (pc := 116) C dX12_prefixOf_116 3 rfl rfl ?_
            refine v_iload_n (pc := 117) C dX12_prefixOf_117 4 rfl rfl ?_
            refine v_iload (pc := 118) C dX12_prefixOf_118 2 rfl ?_
            refine v_iadd (pc := 120) C dX12_prefixOf_120 ?_
            refine v_iload_n (pc := 121) C dX12_prefixOf_121 5 rfl rfl ?_
            refine v_iload (pc := 122) C dX12_prefixOf_122 2 rfl ?_
            refine v_isub (pc := 124) C dX12_prefixOf_124 ?_
            refine v_iload_n (pc := 125) C dX12_prefixOf_125 6 rfl rfl ?_
            refine v_iload (pc := 126) C dX12_prefixOf_126 2 rfl ?_
            refine v_isub (pc := 128) C dX12_prefixOf_128 ?_
            refine v_iconst (v := 0) (pc := 129) C dX12_prefixOf_129 rfl ?_
            refine v_iload (pc := 130) C dX12_prefixOf_130 8 rfl ?_
            have b_9 : ((y - (V_X12_half g (y)))).toInt = (y).toInt - ((V_X12_half g (y))).toInt := i32_sub (by (try simp only [Int32.le_iff_toInt_le, Int32.lt_iff_toInt_lt, ← Int32.toInt_inj, Int32.reduceToInt] at c_1 c_3 c_4 c_7 c_8 b_2 b_5 b_6 a0 x1 xy ay h1); omega) (by (try simp only [Int32.le_iff_toInt_le, Int32.lt_iff_toInt_lt, ← Int32.toInt_inj, Int32.reduceToInt] at c_1 c_3 c_4 c_7 c_8 b_2 b_5 b_6 a0 x1 xy ay h1); omega)
            have b_10 : ((x - (V_X12_half g (y)))).toInt = (x).toInt - ((V_X12_half g (y))).toInt := i32_sub (by (try simp only [Int32.le_iff_toInt_le, Int32.lt_iff_toInt_lt, ← Int32.toInt_inj, Int32.reduceToInt] at c_1 c_3 c_4 c_7 c_8 b_2 b_5 b_6 b_9 a0 x1 xy ay h1); omega) (by (try simp only [Int32.le_iff_toInt_le, Int32.lt_iff_toInt_lt, ← Int32.toInt_inj, Int32.reduceToInt] at c_1 c_3 c_4 c_7 c_8 b_2 b_5 b_6 b_9 a0 x1 xy ay h1); omega)
            have b_11 : ((a + (V_X12_half g (y)))).toInt = (a).toInt + ((V_X12_half g (y))).toInt := i32_addn (by (try simp only [Int32.le_iff_toInt_le, Int32.lt_iff_toInt_lt, ← Int32.toInt_inj, Int32.reduceToInt] at c_1 c_3 c_4 c_7 c_8 b_2 b_5 b_6 b_9 b_10 a0 x1 xy ay h1); omega) (by (try simp only [Int32.le_iff_toInt_le, Int32.lt_iff_toInt_lt, ← Int32.toInt_inj, Int32.reduceToInt] at c_1 c_3 c_4 c_7 c_8 b_2 b_5 b_6 b_9 b_10 a0 x1 xy ay h1); omega) (by (try simp only [Int32.le_iff_toInt_le, Int32.lt_iff_toInt_lt, ← Int32.toInt_inj, Int32.reduceToInt] at c_1 c_3 c_4 c_7 c_8 b_2 b_5 b_6 b_9 b_10 a0 x1 xy ay h1); omega)
            refine v_callV (pc := 132) C (40, 0) ck_40 rfl (ih ((a + (V_X12_half g (y)))) ((x - (V_X12_half g (y)))) ((y - (V_X12_half g (y)))) (0) (z) (by (try simp only [Int32.le_iff_toInt_le, Int32.lt_iff_toInt_lt, ← Int32.toInt_inj, Int32.reduceToInt] at c_1 c_3 c_4 c_7 c_8 b_2 b_5 b_6 b_9 b_10 b_11 a0 x1 xy ay h1 ⊢); omega) (by (try simp only [Int32.le_iff_toInt_le, Int32.lt_iff_toInt_lt, ← Int32.toInt_inj, Int32.reduceToInt] at c_1 c_3 c_4 c_7 c_8 b_2 b_5 b_6 b_9 b_10 b_11 a0 x1 xy ay h1 ⊢); omega) (by (try simp only [Int32.le_iff_toInt_le, Int32.lt_iff_toInt_lt, ← Int32.toInt_inj, Int32.reduceToInt] at c_1 c_3 c_4 c_7 c_8 b_2 b_5 b_6 b_9 b_10 b_11 a0 x1 xy ay h1 ⊢); omega) (by (try simp only [Int32.le_iff_toInt_le, Int32.lt_iff_toInt_lt, ← Int32.toInt_inj, Int32.reduceToInt] at c_1 c_3 c_4 c_7 c_8 b_2 b_5 b_6 b_9 b_10 b_11 a0 x1 xy ay h1 ⊢); omega) (by (try simp only [Int32.le_iff_toInt_le, Int32.lt_iff_toInt_lt, ← Int32.toInt_inj, Int32.reduceToInt] at c_1 c_3 c_4 c_7 c_8 b_2 b_5 b_6 b_9 b_10 b_11 a0 x1 xy ay h1 ⊢); omega) (pre_snd x1 xy (by (try simp only [Int32.le_iff_toInt_le, Int32.lt_iff_toInt_lt, ← Int32.toInt_inj, Int32.reduceToInt] at c_1 c_3 c_4 c_7 c_8 b_2 b_5 b_6 b_9 b_10 b_11 a0 x1 xy ay h1); omega) c_1 c_3 c_7 zd)) 5 wd_1777 wd_68 wd_1774 wd_1776 wd_58 (by decide +kernel) (by omega) (by decide) rfl ([]) rfl (Nat.le_of_ble_eq_true rfl) (by decide) dX12_prefixOf_132 (fun _ _ _ q => q.elim) (fun v9 A9 h9 hR9 => ?_)
            obtain ⟨rfl, hA9, rfl⟩ := hR9
            obtain rfl := hA9.symm
            refine v_st (k2 := 0) (n2 := 0) (st2 := [.int ((VR_X12_prefixOf g n ((a + (V_X12_half g (y)))) ((x - (V_X12_half g (y)))) ((y - (V_X12_half g (y)))) (0) (z)))]) rfl rfl rfl ?_
            exact v_iret (pc := 135) C (by decide) (by decide) dX12_prefixOf_135 ⟨(congrArg (fun q => some (Value.int q)) (by show _ = _; rw [VR_X12_prefixOf, if_neg c_1, if_pos c_3, if_neg c_7])), rfl, rfl⟩
          · skip
            exact absurd c_8 (by decide)
        · skip
          refine v_iload (pc := 68) C dX12_prefixOf_68 1 rfl ?_
          refine v_if_eq (pc := 70) (tgt := 88) C dX12_prefixOf_70 (by decide) (fun c_12 => ?_) (fun c_12 => ?_)
          · skip
            refine v_aload_n (pc := 88) C dX12_prefixOf_88 3 rfl rfl ?_
            refine v_iload_n (pc := 89) C dX12_prefixOf_89 4 rfl rfl ?_
            refine v_iload (pc := 90) C dX12_prefixOf_90 2 rfl ?_
            refine v_callV (pc := 92) C (40, 0) ck_40 rfl (c_X12_rootOf hG (a) ((V_X12_half g (y))) (by (try simp only [Int32.le_iff_toInt_le, Int32.lt_iff_toInt_lt, ← Int32.toInt_inj, Int32.reduceToInt] at c_1 c_3 c_4 c_7 c_12 b_2 b_5 b_6 a0 x1 xy ay h1 ⊢); omega) (by (try simp only [Int32.le_iff_toInt_le, Int32.lt_iff_toInt_lt, ← Int32.toInt_inj, Int32.reduceToInt] at c_1 c_3 c_4 c_7 c_12 b_2 b_5 b_6 a0 x1 xy ay h1 ⊢); omega) (by (try simp only [Int32.le_iff_toInt_le, Int32.lt_iff_toInt_lt, ← Int32.toInt_inj, Int32.reduceToInt] at c_1 c_3 c_4 c_7 c_12 b_2 b_5 b_6 a0 x1 xy ay h1 ⊢); omega) (by (try simp only [Int32.le_iff_toInt_le, Int32.lt_iff_toInt_lt, ← Int32.toInt_inj, Int32.reduceToInt] at c_1 c_3 c_4 c_7 c_12 b_2 b_5 b_6 a0 x1 xy ay h1 ⊢); omega)) 2 wd_1736 wd_68 wd_1733 wd_1735 wd_54 (by decide +kernel) (by omega) (by decide) rfl ([]) rfl (Nat.le_of_ble_eq_true rfl) (by decide) dX12_prefixOf_92 (fun _ _ _ q => q.elim) (fun v9 A9 h9 hR9 => ?_)
            obtain ⟨rfl, hA9, rfl⟩ := hR9
            obtain rfl := hA9.symm
            refine v_st (k2 := 0) (n2 := 0) (st2 := [.int ((V_X12_rootOf g (a) ((V_X12_half g (y)))))]) rfl rfl rfl ?_
            exact v_iret (pc := 95) C (by decide) (by decide) dX12_prefixOf_95 ⟨(congrArg (fun q => some (Value.int q)) (by show _ = _; rw [VR_X12_prefixOf, if_neg c_1, if_pos c_3, if_pos c_7])), rfl, rfl⟩
          · skip
            exact absurd c_12 (by decide)
      · skip
        exact absurd c_4 (by decide)
    · skip
      refine v_iconst (v := 1) (pc := 24) C dX12_prefixOf_24 rfl ?_
      refine v_goto (tgt := 29) (pc := 25) C dX12_prefixOf_25 (by decide) ?_
      refine v_istore (lv2 := [(7, .int (1)), (6, .int ((V_X12_half g (y)))), (0, .ref (A (40, 0))), (1, .int (a)), (2, .int (x)), (3, .int (y)), (4, .int (zz)), (5, .int (z))]) (pc := 29) C dX12_prefixOf_29 (by decide) rfl ?_
      refine v_iload (pc := 31) C dX12_prefixOf_31 0 rfl ?_
      refine v_if_eq (pc := 33) (tgt := 47) C dX12_prefixOf_33 (by decide) (fun c_13 => ?_) (fun c_13 => ?_)
      · skip
        exact absurd c_13 (by decide)
      · skip
        refine v_iload_n (pc := 36) C dX12_prefixOf_36 4 rfl rfl ?_
        refine v_iload (pc := 37) C dX12_prefixOf_37 1 rfl ?_
        refine v_iload (pc := 39) C dX12_prefixOf_39 6 rfl ?_
        refine v_callS (pc := 41) C (c_X12_prefixMany hG (x) ((V_X12_half g (y))) (zz) (by (try simp only [Int32.le_iff_toInt_le, Int32.lt_iff_toInt_lt, ← Int32.toInt_inj, Int32.reduceToInt] at c_1 c_3 c_13 b_2 a0 x1 xy ay h1 ⊢); omega) (by (try simp only [Int32.le_iff_toInt_le, Int32.lt_iff_toInt_lt, ← Int32.toInt_inj, Int32.reduceToInt] at c_1 c_3 c_13 b_2 a0 x1 xy ay h1 ⊢); omega) (by (try simp only [Int32.le_iff_toInt_le, Int32.lt_iff_toInt_lt, ← Int32.toInt_inj, Int32.reduceToInt] at c_1 c_3 c_13 b_2 a0 x1 xy ay h1 ⊢); omega) (by (try simp only [Int32.le_iff_toInt_le, Int32.lt_iff_toInt_lt, ← Int32.toInt_inj, Int32.reduceToInt] at c_1 c_3 c_13 b_2 a0 x1 xy ay h1 ⊢); omega)) 3 wd_1769 wd_68 wd_1767 wd_1768 (by decide +kernel) (by omega) (by decide) rfl ([]) rfl (Nat.le_of_ble_eq_true rfl) (by decide) dX12_prefixOf_41 (fun _ _ _ q => q.elim) (fun v9 A9 h9 hR9 => ?_)
        obtain ⟨rfl, hA9, rfl⟩ := hR9
        obtain rfl := hA9.symm
        refine v_st (k2 := 0) (n2 := 0) (st2 := [.int ((V_X12_prefixMany g (x) ((V_X12_half g (y))) (zz)))]) rfl rfl rfl ?_
        refine v_goto (tgt := 59) (pc := 44) C dX12_prefixOf_44 (by decide) ?_
        refine v_istore (lv2 := [(8, .int ((V_X12_prefixMany g (x) ((V_X12_half g (y))) (zz)))), (7, .int (1)), (6, .int ((V_X12_half g (y)))), (0, .ref (A (40, 0))), (1, .int (a)), (2, .int (x)), (3, .int (y)), (4, .int (zz)), (5, .int (z))]) (pc := 59) C dX12_prefixOf_59 (by decide) rfl ?_
        refine v_iload (pc := 61) C dX12_prefixOf_61 8 rfl ?_
        refine v_iload (pc := 63) C dX12_prefixOf_63 0 rfl ?_
        refine v_icmp_ne (pc := 65) (tgt := 96) C dX12_prefixOf_65 (by decide) (fun c_14 => ?_) (fun c_14 => ?_)
        · skip
          refine v_iload (pc := 96) C dX12_prefixOf_96 1 rfl ?_
          refine v_if_eq (pc := 98) (tgt := 116) C dX12_prefixOf_98 (by decide) (fun c_15 => ?_) (fun c_15 => ?_)
          · skip
            exact absurd c_15 (by decide)
          · skip
            refine v_aload_n (pc := 101) C dX12_prefixOf_101 3 rfl rfl ?_
            refine v_iload_n (pc := 102) C dX12_prefixOf_102 4 rfl rfl ?_
            refine v_iload_n (pc := 103) C dX12_prefixOf_103 5 rfl rfl ?_
            refine v_iload (pc := 104) C dX12_prefixOf_104 2 rfl ?_
            refine v_iload (pc := 106) C dX12_prefixOf_106 7 rfl ?_
            refine v_iload (pc := 108) C dX12_prefixOf_108 8 rfl ?_
            refine v_callV (pc := 110) C (40, 0) ck_40 rfl (ih (a) (x) ((V_X12_half g (y))) (zz) (z) (by (try simp only [Int32.le_iff_toInt_le, Int32.lt_iff_toInt_lt, ← Int32.toInt_inj, Int32.reduceToInt] at c_1 c_3 c_13 c_14 c_15 b_2 a0 x1 xy ay h1 ⊢); omega) (by (try simp only [Int32.le_iff_toInt_le, Int32.lt_iff_toInt_lt, ← Int32.toInt_inj, Int32.reduceToInt] at c_1 c_3 c_13 c_14 c_15 b_2 a0 x1 xy ay h1 ⊢); omega) (by (try simp only [Int32.le_iff_toInt_le, Int32.lt_iff_toInt_lt, ← Int32.toInt_inj, Int32.reduceToInt] at c_1 c_3 c_13 c_14 c_15 b_2 a0 x1 xy ay h1 ⊢); omega) (by (try simp only [Int32.le_iff_toInt_le, Int32.lt_iff_toInt_lt, ← Int32.toInt_inj, Int32.reduceToInt] at c_1 c_3 c_13 c_14 c_15 b_2 a0 x1 xy ay h1 ⊢); omega) (by (try simp only [Int32.le_iff_toInt_le, Int32.lt_iff_toInt_lt, ← Int32.toInt_inj, Int32.reduceToInt] at c_1 c_3 c_13 c_14 c_15 b_2 a0 x1 xy ay h1 ⊢); omega) (pre_fst x1 xy (by (try simp only [Int32.le_iff_toInt_le, Int32.lt_iff_toInt_lt, ← Int32.toInt_inj, Int32.reduceToInt] at c_1 c_3 c_13 c_14 c_15 b_2 a0 x1 xy ay h1); omega) c_1 c_3 c_14 zd)) 5 wd_1777 wd_68 wd_1774 wd_1776 wd_58 (by decide +kernel) (by omega) (by decide) rfl ([]) rfl (Nat.le_of_ble_eq_true rfl) (by decide) dX12_prefixOf_110 (fun _ _ _ q => q.elim) (fun v9 A9 h9 hR9 => ?_)
            obtain ⟨rfl, hA9, rfl⟩ := hR9
            obtain rfl := hA9.symm
            refine v_st (k2 := 0) (n2 := 0) (st2 := [.int ((VR_X12_prefixOf g n (a) (x) ((V_X12_half g (y))) (zz) (z)))]) rfl rfl rfl ?_
            refine v_goto (tgt := 135) (pc := 113) C dX12_prefixOf_113 (by decide) ?_
            exact v_iret (pc := 135) C (by decide) (by decide) dX12_prefixOf_135 ⟨(congrArg (fun q => some (Value.int q)) (by show _ = _; rw [VR_X12_prefixOf, if_neg c_1, if_neg c_3, if_neg c_14])), rfl, rfl⟩
        · skip
          refine v_iload (pc := 68) C dX12_prefixOf_68 1 rfl ?_
          refine v_if_eq (pc := 70) (tgt := 88) C dX12_prefixOf_70 (by decide) (fun c_16 => ?_) (fun c_16 => ?_)
          · skip
            exact absurd c_16 (by decide)
          · skip
            refine v_aload_n (pc := 73) C dX12_prefixOf_73 3 rfl rfl ?_
            refine v_iload_n (pc := 74) C dX12_prefixOf_74 4 rfl rfl ?_
            refine v_iload (pc := 75) C dX12_prefixOf_75 2 rfl ?_
            refine v_iadd (pc := 77) C dX12_prefixOf_77 ?_
            refine v_iload_n (pc := 78) C dX12_prefixOf_78 6 rfl rfl ?_
            refine v_iload (pc := 79) C dX12_prefixOf_79 2 rfl ?_
            refine v_isub (pc := 81) C dX12_prefixOf_81 ?_
            have b_17 : ((y - (V_X12_half g (y)))).toInt = (y).toInt - ((V_X12_half g (y))).toInt := i32_sub (by (try simp only [Int32.le_iff_toInt_le, Int32.lt_iff_toInt_lt, ← Int32.toInt_inj, Int32.reduceToInt] at c_1 c_3 c_13 c_14 c_16 b_2 a0 x1 xy ay h1); omega) (by (try simp only [Int32.le_iff_toInt_le, Int32.lt_iff_toInt_lt, ← Int32.toInt_inj, Int32.reduceToInt] at c_1 c_3 c_13 c_14 c_16 b_2 a0 x1 xy ay h1); omega)
            have b_18 : ((a + (V_X12_half g (y)))).toInt = (a).toInt + ((V_X12_half g (y))).toInt := i32_addn (by (try simp only [Int32.le_iff_toInt_le, Int32.lt_iff_toInt_lt, ← Int32.toInt_inj, Int32.reduceToInt] at c_1 c_3 c_13 c_14 c_16 b_2 b_17 a0 x1 xy ay h1); omega) (by (try simp only [Int32.le_iff_toInt_le, Int32.lt_iff_toInt_lt, ← Int32.toInt_inj, Int32.reduceToInt] at c_1 c_3 c_13 c_14 c_16 b_2 b_17 a0 x1 xy ay h1); omega) (by (try simp only [Int32.le_iff_toInt_le, Int32.lt_iff_toInt_lt, ← Int32.toInt_inj, Int32.reduceToInt] at c_1 c_3 c_13 c_14 c_16 b_2 b_17 a0 x1 xy ay h1); omega)
            refine v_callV (pc := 82) C (40, 0) ck_40 rfl (c_X12_rootOf hG ((a + (V_X12_half g (y)))) ((y - (V_X12_half g (y)))) (by (try simp only [Int32.le_iff_toInt_le, Int32.lt_iff_toInt_lt, ← Int32.toInt_inj, Int32.reduceToInt] at c_1 c_3 c_13 c_14 c_16 b_2 b_17 b_18 a0 x1 xy ay h1 ⊢); omega) (by (try simp only [Int32.le_iff_toInt_le, Int32.lt_iff_toInt_lt, ← Int32.toInt_inj, Int32.reduceToInt] at c_1 c_3 c_13 c_14 c_16 b_2 b_17 b_18 a0 x1 xy ay h1 ⊢); omega) (by (try simp only [Int32.le_iff_toInt_le, Int32.lt_iff_toInt_lt, ← Int32.toInt_inj, Int32.reduceToInt] at c_1 c_3 c_13 c_14 c_16 b_2 b_17 b_18 a0 x1 xy ay h1 ⊢); omega) (by (try simp only [Int32.le_iff_toInt_le, Int32.lt_iff_toInt_lt, ← Int32.toInt_inj, Int32.reduceToInt] at c_1 c_3 c_13 c_14 c_16 b_2 b_17 b_18 a0 x1 xy ay h1 ⊢); omega)) 2 wd_1736 wd_68 wd_1733 wd_1735 wd_54 (by decide +kernel) (by omega) (by decide) rfl ([]) rfl (Nat.le_of_ble_eq_true rfl) (by decide) dX12_prefixOf_82 (fun _ _ _ q => q.elim) (fun v9 A9 h9 hR9 => ?_)
            obtain ⟨rfl, hA9, rfl⟩ := hR9
            obtain rfl := hA9.symm
            refine v_st (k2 := 0) (n2 := 0) (st2 := [.int ((V_X12_rootOf g ((a + (V_X12_half g (y)))) ((y - (V_X12_half g (y))))))]) rfl rfl rfl ?_
            refine v_goto (tgt := 95) (pc := 85) C dX12_prefixOf_85 (by decide) ?_
            exact v_iret (pc := 95) C (by decide) (by decide) dX12_prefixOf_95 ⟨(congrArg (fun q => some (Value.int q)) (by show _ = _; rw [VR_X12_prefixOf, if_neg c_1, if_neg c_3, if_pos c_14])), rfl, rfl⟩
  · skip
    refine v_aload_n (pc := 5) C dX12_prefixOf_5 0 rfl rfl ?_
    refine v_iload_n (pc := 6) C dX12_prefixOf_6 1 rfl rfl ?_
    refine v_iload_n (pc := 7) C dX12_prefixOf_7 3 rfl rfl ?_
    refine v_callV (pc := 8) C (40, 0) ck_40 rfl (c_X12_rootOf hG (a) (y) (by (try simp only [Int32.le_iff_toInt_le, Int32.lt_iff_toInt_lt, ← Int32.toInt_inj, Int32.reduceToInt] at c_1 a0 x1 xy ay h1 ⊢); omega) (by (try simp only [Int32.le_iff_toInt_le, Int32.lt_iff_toInt_lt, ← Int32.toInt_inj, Int32.reduceToInt] at c_1 a0 x1 xy ay h1 ⊢); omega) (by (try simp only [Int32.le_iff_toInt_le, Int32.lt_iff_toInt_lt, ← Int32.toInt_inj, Int32.reduceToInt] at c_1 a0 x1 xy ay h1 ⊢); omega) (by (try simp only [Int32.le_iff_toInt_le, Int32.lt_iff_toInt_lt, ← Int32.toInt_inj, Int32.reduceToInt] at c_1 a0 x1 xy ay h1 ⊢); omega)) 2 wd_1736 wd_68 wd_1733 wd_1735 wd_54 (by decide +kernel) (by omega) (by decide) rfl ([]) rfl (Nat.le_of_ble_eq_true rfl) (by decide) dX12_prefixOf_8 (fun _ _ _ q => q.elim) (fun v9 A9 h9 hR9 => ?_)
    obtain ⟨rfl, hA9, rfl⟩ := hR9
    obtain rfl := hA9.symm
    refine v_st (k2 := 0) (n2 := 0) (st2 := [.int ((V_X12_rootOf g (a) (y)))]) rfl rfl rfl ?_
    exact v_iret (pc := 11) C (by decide) (by decide) dX12_prefixOf_11 ⟨(congrArg (fun q => some (Value.int q)) (by show _ = _; rw [VR_X12_prefixOf, if_pos c_1])), rfl, rfl⟩
theorem c_X12_prefixOf_z {G : vG} (hG : G.1.stackTraces = false) {A : vN → Nat} {g : vS} {r : vH} (a : Int32) (x : Int32) (y : Int32) (zz : Int32) (z : Int32) (h1 : y.toInt ≤ ((0 : Nat) : Int)) (a0 : 0 ≤ a.toInt) (x1 : 1 ≤ x.toInt) (xy : x.toInt ≤ y.toInt) (ay : a.toInt + y.toInt ≤ 300) (zd : z.toInt < (V_X12_prefixMany g x y zz).toInt) : vCt G yX12_prefixOf cX12_prefixOf 9 (some .int) (303 + 0) [.ref (A (40, 0)), .int (a), .int (x), .int (y), .int (zz), .int (z)] A (wm g r) (fun v A2 h2 => v = some (.int (VR_X12_prefixOf g 0 a x y zz z)) ∧ A2 = A ∧ h2 = wm g r) (vNoX) 0 0 := by
  exfalso; omega
theorem c_X12_prefixOf_n {G : vG} (hG : G.1.stackTraces = false) {A : vN → Nat} {g : vS} {r : vH} : ∀ (n : Nat) (a : Int32) (x : Int32) (y : Int32) (zz : Int32) (z : Int32), y.toInt ≤ ((n : Nat) : Int) → 0 ≤ a.toInt → 1 ≤ x.toInt → x.toInt ≤ y.toInt → a.toInt + y.toInt ≤ 300 → z.toInt < (V_X12_prefixMany g x y zz).toInt → vCt G yX12_prefixOf cX12_prefixOf 9 (some .int) (303 + n) [.ref (A (40, 0)), .int (a), .int (x), .int (y), .int (zz), .int (z)] A (wm g r) (fun v A2 h2 => v = some (.int (VR_X12_prefixOf g n a x y zz z)) ∧ A2 = A ∧ h2 = wm g r) vNoX 0 0 := by
  intro n
  induction n with
  | zero => intro a x y zz z h1 a0 x1 xy ay zd; exact c_X12_prefixOf_z hG a x y zz z h1 a0 x1 xy ay zd
  | succ n ih => intro a x y zz z h1 a0 x1 xy ay zd; exact c_X12_prefixOf_s hG n ih a x y zz z h1 a0 x1 xy ay zd
def V_X12_prefixOf (g : vS) (a : Int32) (x : Int32) (y : Int32) (zz : Int32) (z : Int32) : Int32 := VR_X12_prefixOf g 300 a x y zz z
theorem c_X12_prefixOf {G : vG} (hG : G.1.stackTraces = false) {A : vN → Nat} {g : vS} {r : vH} (a : Int32) (x : Int32) (y : Int32) (zz : Int32) (z : Int32) (h1 : y.toInt ≤ ((300 : Nat) : Int)) (a0 : 0 ≤ a.toInt) (x1 : 1 ≤ x.toInt) (xy : x.toInt ≤ y.toInt) (ay : a.toInt + y.toInt ≤ 300) (zd : z.toInt < (V_X12_prefixMany g x y zz).toInt) : vCt G yX12_prefixOf cX12_prefixOf 9 (some .int) 603 [.ref (A (40, 0)), .int (a), .int (x), .int (y), .int (zz), .int (z)] A (wm g r) (fun v A2 h2 => v = some (.int (V_X12_prefixOf g a x y zz z)) ∧ A2 = A ∧ h2 = wm g r) vNoX 0 0 := c_X12_prefixOf_n hG 300 a x y zz z h1 a0 x1 xy ay zd
def V_X12_proofAt (g : vS) (x : Int32) (y : Int32) (z : Int32) : Int32 := (if (V_X12_isNoLeaf g (x) (y)) = 0 then (if (V_X12_isBetween (S_X12_isNoLeaf g (x) (y)) (z) (0) (((V_X12_depth (S_X12_isNoLeaf g (x) (y)) (x) (y)) - 1))) = 0 then 0 else (V_X12_proofOf (S_X12_isWrong (S_X12_isNoLeaf g (x) (y)) (0)) (0) (x) (y) (z))) else 0)
def S_X12_proofAt (g : vS) (x : Int32) (y : Int32) (z : Int32) : vS := (if (V_X12_isNoLeaf g (x) (y)) = 0 then (if (V_X12_isBetween (S_X12_isNoLeaf g (x) (y)) (z) (0) (((V_X12_depth (S_X12_isNoLeaf g (x) (y)) (x) (y)) - 1))) = 0 then (S_X12_isWrong (S_X12_isNoLeaf g (x) (y)) (2)) else (S_X12_isWrong (S_X12_isNoLeaf g (x) (y)) (0))) else (S_X12_isNoLeaf g (x) (y)))
theorem F_X12_proofAt {g : vS} {x : Int32} {y : Int32} {z : Int32} {c i j : Nat} (h1 : c ≠ 1) : S_X12_proofAt g x y z c i j = g c i j := by
  unfold S_X12_proofAt
  (repeat' split) <;> first | rfl | ((simp only [s3_k h1, F_X12_isNoLeaf h1, F_X12_isWrong h1]) <;> first | done | rfl)
set_option maxHeartbeats 4000000 in
set_option maxRecDepth 100000 in
theorem c_X12_proofAt {G : vG} (hG : G.1.stackTraces = false) {A : vN → Nat} {g : vS} {r : vH} (x : Int32) (y : Int32) (z : Int32) (hu0 : 0 ≤ (g 2 0 0).toInt) (hu : (g 2 0 0).toInt ≤ 6) (hg0 : 0 ≤ (g 3 0 0).toInt) (hg : (g 3 0 0).toInt ≤ 5) (hf0 : 0 ≤ (g 4 0 0).toInt) (hf : (g 4 0 0).toInt ≤ 20) (hl0 : 0 ≤ (g 11 0 0).toInt) (hl : (g 11 0 0).toInt ≤ 300) : vCt G yX12_proofAt cX12_proofAt 4 (some .int) 604 [.ref (A (40, 0)), .int (x), .int (y), .int (z)] A (wm g r) (fun v A2 h2 => v = some (.int (V_X12_proofAt g x y z)) ∧ A2 = A ∧ h2 = wm (S_X12_proofAt g x y z) r) (vNoX) 0 0 := by
  refine v_of hG (by decide +kernel) (Nat.le_of_ble_eq_true rfl) (lv := [(0, .ref (A (40, 0))), (1, .int (x)), (2, .int (y)), (3, .int (z))]) rfl (fun X C hnx => ?_)
  have C : vC G X cX12_proofAt 4 RX12 (some .int) "proofAt" 604 0 0 := C
  refine v_aload_n (pc := 0) C dX12_proofAt_0 0 rfl rfl ?_
  refine v_iload_n (pc := 1) C dX12_proofAt_1 1 rfl rfl ?_
  refine v_iload_n (pc := 2) C dX12_proofAt_2 2 rfl rfl ?_
  refine v_callV (pc := 3) C (40, 0) ck_40 rfl (c_X12_isNoLeaf hG (x) (y) hu0 hu hg0 hg hf0 hf hl0 hl) 2 wd_1747 wd_68 wd_1744 wd_1746 wd_55 (by decide +kernel) (by decide) (by decide) rfl ([]) rfl (Nat.le_of_ble_eq_true rfl) (by decide) dX12_proofAt_3 (fun _ _ _ q => q.elim) (fun v9 A9 h9 hR9 => ?_)
  obtain ⟨rfl, hA9, rfl⟩ := hR9
  obtain rfl := hA9.symm
  refine v_st (k2 := 0) (n2 := 0) (st2 := [.int ((V_X12_isNoLeaf g (x) (y)))]) rfl rfl rfl ?_
  have b_1 := ok_isNoLeaf (g := g) (x := x) (y := y)
  refine v_if_ne (pc := 6) (tgt := 36) C dX12_proofAt_6 (by decide) (fun c_2 => ?_) (fun c_2 => ?_)
  · skip
    refine v_iconst (v := 0) (pc := 36) C dX12_proofAt_36 rfl ?_
    exact v_iret (pc := 37) C (by decide) (by decide) dX12_proofAt_37 ⟨(congrArg (fun q => some (Value.int q)) (by show _ = _; rw [V_X12_proofAt, if_neg c_2])), rfl, (congrArg (fun q => wm q r) (by show _ = _; rw [S_X12_proofAt, if_neg c_2]))⟩
  · skip
    refine v_aload_n (pc := 9) C dX12_proofAt_9 0 rfl rfl ?_
    refine v_iload_n (pc := 10) C dX12_proofAt_10 3 rfl rfl ?_
    refine v_iconst (v := 0) (pc := 11) C dX12_proofAt_11 rfl ?_
    refine v_iload_n (pc := 12) C dX12_proofAt_12 1 rfl rfl ?_
    refine v_iload_n (pc := 13) C dX12_proofAt_13 2 rfl rfl ?_
    refine v_callS (pc := 14) C (c_X12_depth hG (x) (y) (by (try simp only [Int32.le_iff_toInt_le, Int32.lt_iff_toInt_lt, ← Int32.toInt_inj, Int32.reduceToInt] at c_2 b_1 hu hg hf hl0 hl ⊢); omega) (by (try simp only [Int32.le_iff_toInt_le, Int32.lt_iff_toInt_lt, ← Int32.toInt_inj, Int32.reduceToInt] at c_2 b_1 hu hg hf hl0 hl ⊢); omega) (by (try simp only [Int32.le_iff_toInt_le, Int32.lt_iff_toInt_lt, ← Int32.toInt_inj, Int32.reduceToInt] at c_2 b_1 hu hg hf hl0 hl ⊢); omega)) 2 wd_1750 wd_68 wd_1748 wd_1749 (by decide +kernel) (by decide) (by decide) rfl ([.int (0), .int (z), .ref (A (40, 0))]) rfl (Nat.le_of_ble_eq_true rfl) (by decide) dX12_proofAt_14 (fun _ _ _ q => q.elim) (fun v9 A9 h9 hR9 => ?_)
    obtain ⟨rfl, hA9, rfl⟩ := hR9
    obtain rfl := hA9.symm
    refine v_st (k2 := 0) (n2 := 0) (st2 := [.int ((V_X12_depth (S_X12_isNoLeaf g (x) (y)) (x) (y))), .int (0), .int (z), .ref (A (40, 0))]) rfl rfl rfl ?_
    have b_3 := dep_b (g := (S_X12_isNoLeaf g (x) (y))) (y := x) (x := y) (by (try simp only [Int32.le_iff_toInt_le, Int32.lt_iff_toInt_lt, ← Int32.toInt_inj, Int32.reduceToInt] at c_2 b_1 hu hg hf hl0 hl); omega) (by (try simp only [Int32.le_iff_toInt_le, Int32.lt_iff_toInt_lt, ← Int32.toInt_inj, Int32.reduceToInt] at c_2 b_1 hu hg hf hl0 hl); omega)
    refine v_iconst (v := 1) (pc := 17) C dX12_proofAt_17 rfl ?_
    refine v_isub (pc := 18) C dX12_proofAt_18 ?_
    refine v_callS (pc := 19) C (c_X12_isBetween hG (z) (0) (((V_X12_depth (S_X12_isNoLeaf g (x) (y)) (x) (y)) - 1)) ) 3 wd_1527 wd_68 wd_1525 wd_1526 (by decide +kernel) (by decide) (by decide) rfl ([.ref (A (40, 0))]) rfl (Nat.le_of_ble_eq_true rfl) (by decide) dX12_proofAt_19 (fun _ _ _ q => q.elim) (fun v9 A9 h9 hR9 => ?_)
    obtain ⟨rfl, hA9, rfl⟩ := hR9
    obtain rfl := hA9.symm
    refine v_st (k2 := 0) (n2 := 0) (st2 := [.int ((V_X12_isBetween (S_X12_isNoLeaf g (x) (y)) (z) (0) (((V_X12_depth (S_X12_isNoLeaf g (x) (y)) (x) (y)) - 1)))), .ref (A (40, 0))]) rfl rfl rfl ?_
    have b_4 := ok_btw (g := (S_X12_isNoLeaf g (x) (y))) (x := z) (a := 0) (b := ((V_X12_depth (S_X12_isNoLeaf g (x) (y)) (x) (y)) - 1))
    have b_5 : (((V_X12_depth (S_X12_isNoLeaf g (x) (y)) (x) (y)) - 1)).toInt = ((V_X12_depth (S_X12_isNoLeaf g (x) (y)) (x) (y))).toInt - 1 := i32_sub1 b_3.1
    refine v_if_eq (pc := 22) (tgt := 29) C dX12_proofAt_22 (by decide) (fun c_6 => ?_) (fun c_6 => ?_)
    · skip
      refine v_iconst (v := 2) (pc := 29) C dX12_proofAt_29 rfl ?_
      refine v_callV (pc := 30) C (40, 0) ck_40 rfl (c_X12_isWrong hG (2) ) 1 wd_1531 wd_68 wd_1528 wd_1530 wd_35 (by decide +kernel) (by decide) (by decide) rfl ([]) rfl (Nat.le_of_ble_eq_true rfl) (by decide) dX12_proofAt_30 (fun _ _ _ q => q.elim) (fun v9 A9 h9 hR9 => ?_)
      obtain ⟨rfl, hA9, rfl⟩ := hR9
      obtain rfl := hA9.symm
      refine v_st (k2 := 0) (n2 := 0) (st2 := [.int ((V_X12_isWrong (S_X12_isNoLeaf g (x) (y)) (2)))]) rfl rfl rfl ?_
      refine v_if_eq (pc := 33) (tgt := 38) C dX12_proofAt_33 (by decide) (fun c_7 => ?_) (fun c_7 => ?_)
      · skip
        exact absurd c_7 (fun q9 => ((show ¬ (1 : Int32) = 0 from by decide)) q9)
      · skip
        refine v_iconst (v := 0) (pc := 36) C dX12_proofAt_36 rfl ?_
        exact v_iret (pc := 37) C (by decide) (by decide) dX12_proofAt_37 ⟨(congrArg (fun q => some (Value.int q)) (by show _ = _; rw [V_X12_proofAt, if_pos c_2, if_pos c_6])), rfl, (congrArg (fun q => wm q r) (by show _ = _; rw [S_X12_proofAt, if_pos c_2, if_pos c_6]))⟩
    · skip
      refine v_iconst (v := 0) (pc := 25) C dX12_proofAt_25 rfl ?_
      refine v_goto (tgt := 30) (pc := 26) C dX12_proofAt_26 (by decide) ?_
      refine v_callV (pc := 30) C (40, 0) ck_40 rfl (c_X12_isWrong hG (0) ) 1 wd_1531 wd_68 wd_1528 wd_1530 wd_35 (by decide +kernel) (by decide) (by decide) rfl ([]) rfl (Nat.le_of_ble_eq_true rfl) (by decide) dX12_proofAt_30 (fun _ _ _ q => q.elim) (fun v9 A9 h9 hR9 => ?_)
      obtain ⟨rfl, hA9, rfl⟩ := hR9
      obtain rfl := hA9.symm
      refine v_st (k2 := 0) (n2 := 0) (st2 := [.int ((V_X12_isWrong (S_X12_isNoLeaf g (x) (y)) (0)))]) rfl rfl rfl ?_
      refine v_if_eq (pc := 33) (tgt := 38) C dX12_proofAt_33 (by decide) (fun c_8 => ?_) (fun c_8 => ?_)
      · skip
        refine v_aload_n (pc := 38) C dX12_proofAt_38 0 rfl rfl ?_
        refine v_iconst (v := 0) (pc := 39) C dX12_proofAt_39 rfl ?_
        refine v_iload_n (pc := 40) C dX12_proofAt_40 1 rfl rfl ?_
        refine v_iload_n (pc := 41) C dX12_proofAt_41 2 rfl rfl ?_
        refine v_iload_n (pc := 42) C dX12_proofAt_42 3 rfl rfl ?_
        refine v_callV (pc := 43) C (40, 0) ck_40 rfl (c_X12_proofOf hG (0) (x) (y) (z) (by (try simp only [Int32.le_iff_toInt_le, Int32.lt_iff_toInt_lt, ← Int32.toInt_inj, Int32.reduceToInt] at c_2 c_6 c_8 b_1 b_3 b_4 b_5 hu hg hf hl0 hl ⊢); omega) (by (try simp only [Int32.le_iff_toInt_le, Int32.lt_iff_toInt_lt, ← Int32.toInt_inj, Int32.reduceToInt] at c_2 c_6 c_8 b_1 b_3 b_4 b_5 hu hg hf hl0 hl ⊢); omega) (by (try simp only [Int32.le_iff_toInt_le, Int32.lt_iff_toInt_lt, ← Int32.toInt_inj, Int32.reduceToInt] at c_2 c_6 c_8 b_1 b_3 b_4 b_5 hu hg hf hl0 hl ⊢); omega) (by (try simp only [Int32.le_iff_toInt_le, Int32.lt_iff_toInt_lt, ← Int32.toInt_inj, Int32.reduceToInt] at c_2 c_6 c_8 b_1 b_3 b_4 b_5 hu hg hf hl0 hl ⊢); omega) (by (try simp only [Int32.le_iff_toInt_le, Int32.lt_iff_toInt_lt, ← Int32.toInt_inj, Int32.reduceToInt] at c_2 c_6 c_8 b_1 b_3 b_4 b_5 hu hg hf hl0 hl ⊢); omega) (by rw [dep_g (g2 := (S_X12_isNoLeaf g (x) (y)))]; (try simp only [Int32.le_iff_toInt_le, Int32.lt_iff_toInt_lt, ← Int32.toInt_inj, Int32.reduceToInt] at c_2 c_6 c_8 b_1 b_3 b_4 b_5 hu hg hf hl0 hl); omega)) 4 wd_1758 wd_68 wd_1755 wd_1757 wd_56 (by decide +kernel) (by decide) (by decide) rfl ([]) rfl (Nat.le_of_ble_eq_true rfl) (by decide) dX12_proofAt_43 (fun _ _ _ q => q.elim) (fun v9 A9 h9 hR9 => ?_)
        obtain ⟨rfl, hA9, rfl⟩ := hR9
        obtain rfl := hA9.symm
        refine v_st (k2 := 0) (n2 := 0) (st2 := [.int ((V_X12_proofOf (S_X12_isWrong (S_X12_isNoLeaf g (x) (y)) (0)) (0) (x) (y) (z)))]) rfl rfl rfl ?_
        exact v_iret (pc := 46) C (by decide) (by decide) dX12_proofAt_46 ⟨(congrArg (fun q => some (Value.int q)) (by show _ = _; rw [V_X12_proofAt, if_pos c_2, if_neg c_6])), rfl, (congrArg (fun q => wm q r) (by show _ = _; rw [S_X12_proofAt, if_pos c_2, if_neg c_6]))⟩
      · skip
        exact absurd c_8 (fun q9 => q9 ((show (0 : Int32) = 0 from rfl)))
def V_X12_prefixAt (g : vS) (x : Int32) (y : Int32) (z : Int32) : Int32 := (if (V_X12_isNoPrefix g (x) (y)) = 0 then (if (V_X12_isBetween (S_X12_isNoPrefix g (x) (y)) (z) (0) (((V_X12_prefixMany (S_X12_isNoPrefix g (x) (y)) (x) (y) (1)) - 1))) = 0 then 0 else (V_X12_prefixOf (S_X12_isWrong (S_X12_isNoPrefix g (x) (y)) (0)) (0) (x) (y) (1) (z))) else 0)
def S_X12_prefixAt (g : vS) (x : Int32) (y : Int32) (z : Int32) : vS := (if (V_X12_isNoPrefix g (x) (y)) = 0 then (if (V_X12_isBetween (S_X12_isNoPrefix g (x) (y)) (z) (0) (((V_X12_prefixMany (S_X12_isNoPrefix g (x) (y)) (x) (y) (1)) - 1))) = 0 then (S_X12_isWrong (S_X12_isNoPrefix g (x) (y)) (2)) else (S_X12_isWrong (S_X12_isNoPrefix g (x) (y)) (0))) else (S_X12_isNoPrefix g (x) (y)))
theorem F_X12_prefixAt {g : vS} {x : Int32} {y : Int32} {z : Int32} {c i j : Nat} (h1 : c ≠ 1) : S_X12_prefixAt g x y z c i j = g c i j := by
  unfold S_X12_prefixAt
  (repeat' split) <;> first | rfl | ((simp only [s3_k h1, F_X12_isNoPrefix h1, F_X12_isWrong h1]) <;> first | done | rfl)
set_option maxHeartbeats 4000000 in
set_option maxRecDepth 100000 in
theorem c_X12_prefixAt {G : vG} (hG : G.1.stackTraces = false) {A : vN → Nat} {g : vS} {r : vH} (x : Int32) (y : Int32) (z : Int32) (hu0 : 0 ≤ (g 2 0 0).toInt) (hu : (g 2 0 0).toInt ≤ 6) (hg0 : 0 ≤ (g 3 0 0).toInt) (hg : (g 3 0 0).toInt ≤ 5) (hf0 : 0 ≤ (g 4 0 0).toInt) (hf : (g 4 0 0).toInt ≤ 20) (hl0 : 0 ≤ (g 11 0 0).toInt) (hl : (g 11 0 0).toInt ≤ 300) : vCt G yX12_prefixAt cX12_prefixAt 4 (some .int) 604 [.ref (A (40, 0)), .int (x), .int (y), .int (z)] A (wm g r) (fun v A2 h2 => v = some (.int (V_X12_prefixAt g x y z)) ∧ A2 = A ∧ h2 = wm (S_X12_prefixAt g x y z) r) (vNoX) 0 0 := by
  refine v_of hG (by decide +kernel) (Nat.le_of_ble_eq_true rfl) (lv := [(0, .ref (A (40, 0))), (1, .int (x)), (2, .int (y)), (3, .int (z))]) rfl (fun X C hnx => ?_)
  have C : vC G X cX12_prefixAt 4 RX12 (some .int) "prefixAt" 604 0 0 := C
  refine v_aload_n (pc := 0) C dX12_prefixAt_0 0 rfl rfl ?_
  refine v_iload_n (pc := 1) C dX12_prefixAt_1 1 rfl rfl ?_
  refine v_iload_n (pc := 2) C dX12_prefixAt_2 2 rfl rfl ?_
  refine v_callV (pc := 3) C (40, 0) ck_40 rfl (c_X12_isNoPrefix hG (x) (y) hu0 hu hg0 hg hf0 hf hl0 hl) 2 wd_1766 wd_68 wd_1763 wd_1765 wd_57 (by decide +kernel) (by decide) (by decide) rfl ([]) rfl (Nat.le_of_ble_eq_true rfl) (by decide) dX12_prefixAt_3 (fun _ _ _ q => q.elim) (fun v9 A9 h9 hR9 => ?_)
  obtain ⟨rfl, hA9, rfl⟩ := hR9
  obtain rfl := hA9.symm
  refine v_st (k2 := 0) (n2 := 0) (st2 := [.int ((V_X12_isNoPrefix g (x) (y)))]) rfl rfl rfl ?_
  have b_1 := ok_isNoPrefix (g := g) (x := x) (y := y)
  refine v_if_ne (pc := 6) (tgt := 37) C dX12_prefixAt_6 (by decide) (fun c_2 => ?_) (fun c_2 => ?_)
  · skip
    refine v_iconst (v := 0) (pc := 37) C dX12_prefixAt_37 rfl ?_
    exact v_iret (pc := 38) C (by decide) (by decide) dX12_prefixAt_38 ⟨(congrArg (fun q => some (Value.int q)) (by show _ = _; rw [V_X12_prefixAt, if_neg c_2])), rfl, (congrArg (fun q => wm q r) (by show _ = _; rw [S_X12_prefixAt, if_neg c_2]))⟩
  · skip
    refine v_aload_n (pc := 9) C dX12_prefixAt_9 0 rfl rfl ?_
    refine v_iload_n (pc := 10) C dX12_prefixAt_10 3 rfl rfl ?_
    refine v_iconst (v := 0) (pc := 11) C dX12_prefixAt_11 rfl ?_
    refine v_iload_n (pc := 12) C dX12_prefixAt_12 1 rfl rfl ?_
    refine v_iload_n (pc := 13) C dX12_prefixAt_13 2 rfl rfl ?_
    refine v_iconst (v := 1) (pc := 14) C dX12_prefixAt_14 rfl ?_
    refine v_callS (pc := 15) C (c_X12_prefixMany hG (x) (y) (1) (by (try simp only [Int32.le_iff_toInt_le, Int32.lt_iff_toInt_lt, ← Int32.toInt_inj, Int32.reduceToInt] at c_2 b_1 hu hg hf hl0 hl ⊢); omega) (by (try simp only [Int32.le_iff_toInt_le, Int32.lt_iff_toInt_lt, ← Int32.toInt_inj, Int32.reduceToInt] at c_2 b_1 hu hg hf hl0 hl ⊢); omega) (by (try simp only [Int32.le_iff_toInt_le, Int32.lt_iff_toInt_lt, ← Int32.toInt_inj, Int32.reduceToInt] at c_2 b_1 hu hg hf hl0 hl ⊢); omega) (by (try simp only [Int32.le_iff_toInt_le, Int32.lt_iff_toInt_lt, ← Int32.toInt_inj, Int32.reduceToInt] at c_2 b_1 hu hg hf hl0 hl ⊢); omega)) 3 wd_1769 wd_68 wd_1767 wd_1768 (by decide +kernel) (by decide) (by decide) rfl ([.int (0), .int (z), .ref (A (40, 0))]) rfl (Nat.le_of_ble_eq_true rfl) (by decide) dX12_prefixAt_15 (fun _ _ _ q => q.elim) (fun v9 A9 h9 hR9 => ?_)
    obtain ⟨rfl, hA9, rfl⟩ := hR9
    obtain rfl := hA9.symm
    refine v_st (k2 := 0) (n2 := 0) (st2 := [.int ((V_X12_prefixMany (S_X12_isNoPrefix g (x) (y)) (x) (y) (1))), .int (0), .int (z), .ref (A (40, 0))]) rfl rfl rfl ?_
    have b_3 := pre_b (g := (S_X12_isNoPrefix g (x) (y))) (x := x) (y := y) (zz := 1) (by (try simp only [Int32.le_iff_toInt_le, Int32.lt_iff_toInt_lt, ← Int32.toInt_inj, Int32.reduceToInt] at c_2 b_1 hu hg hf hl0 hl); omega) (by (try simp only [Int32.le_iff_toInt_le, Int32.lt_iff_toInt_lt, ← Int32.toInt_inj, Int32.reduceToInt] at c_2 b_1 hu hg hf hl0 hl); omega) (by (try simp only [Int32.le_iff_toInt_le, Int32.lt_iff_toInt_lt, ← Int32.toInt_inj, Int32.reduceToInt] at c_2 b_1 hu hg hf hl0 hl); omega)
    refine v_iconst (v := 1) (pc := 18) C dX12_prefixAt_18 rfl ?_
    refine v_isub (pc := 19) C dX12_prefixAt_19 ?_
    refine v_callS (pc := 20) C (c_X12_isBetween hG (z) (0) (((V_X12_prefixMany (S_X12_isNoPrefix g (x) (y)) (x) (y) (1)) - 1)) ) 3 wd_1527 wd_68 wd_1525 wd_1526 (by decide +kernel) (by decide) (by decide) rfl ([.ref (A (40, 0))]) rfl (Nat.le_of_ble_eq_true rfl) (by decide) dX12_prefixAt_20 (fun _ _ _ q => q.elim) (fun v9 A9 h9 hR9 => ?_)
    obtain ⟨rfl, hA9, rfl⟩ := hR9
    obtain rfl := hA9.symm
    refine v_st (k2 := 0) (n2 := 0) (st2 := [.int ((V_X12_isBetween (S_X12_isNoPrefix g (x) (y)) (z) (0) (((V_X12_prefixMany (S_X12_isNoPrefix g (x) (y)) (x) (y) (1)) - 1)))), .ref (A (40, 0))]) rfl rfl rfl ?_
    have b_4 := ok_btw (g := (S_X12_isNoPrefix g (x) (y))) (x := z) (a := 0) (b := ((V_X12_prefixMany (S_X12_isNoPrefix g (x) (y)) (x) (y) (1)) - 1))
    have b_5 : (((V_X12_prefixMany (S_X12_isNoPrefix g (x) (y)) (x) (y) (1)) - 1)).toInt = ((V_X12_prefixMany (S_X12_isNoPrefix g (x) (y)) (x) (y) (1))).toInt - 1 := i32_sub1 b_3.1
    refine v_if_eq (pc := 23) (tgt := 30) C dX12_prefixAt_23 (by decide) (fun c_6 => ?_) (fun c_6 => ?_)
    · skip
      refine v_iconst (v := 2) (pc := 30) C dX12_prefixAt_30 rfl ?_
      refine v_callV (pc := 31) C (40, 0) ck_40 rfl (c_X12_isWrong hG (2) ) 1 wd_1531 wd_68 wd_1528 wd_1530 wd_35 (by decide +kernel) (by decide) (by decide) rfl ([]) rfl (Nat.le_of_ble_eq_true rfl) (by decide) dX12_prefixAt_31 (fun _ _ _ q => q.elim) (fun v9 A9 h9 hR9 => ?_)
      obtain ⟨rfl, hA9, rfl⟩ := hR9
      obtain rfl := hA9.symm
      refine v_st (k2 := 0) (n2 := 0) (st2 := [.int ((V_X12_isWrong (S_X12_isNoPrefix g (x) (y)) (2)))]) rfl rfl rfl ?_
      refine v_if_eq (pc := 34) (tgt := 39) C dX12_prefixAt_34 (by decide) (fun c_7 => ?_) (fun c_7 => ?_)
      · skip
        exact absurd c_7 (fun q9 => ((show ¬ (1 : Int32) = 0 from by decide)) q9)
      · skip
        refine v_iconst (v := 0) (pc := 37) C dX12_prefixAt_37 rfl ?_
        exact v_iret (pc := 38) C (by decide) (by decide) dX12_prefixAt_38 ⟨(congrArg (fun q => some (Value.int q)) (by show _ = _; rw [V_X12_prefixAt, if_pos c_2, if_pos c_6])), rfl, (congrArg (fun q => wm q r) (by show _ = _; rw [S_X12_prefixAt, if_pos c_2, if_pos c_6]))⟩
    · skip
      refine v_iconst (v := 0) (pc := 26) C dX12_prefixAt_26 rfl ?_
      refine v_goto (tgt := 31) (pc := 27) C dX12_prefixAt_27 (by decide) ?_
      refine v_callV (pc := 31) C (40, 0) ck_40 rfl (c_X12_isWrong hG (0) ) 1 wd_1531 wd_68 wd_1528 wd_1530 wd_35 (by decide +kernel) (by decide) (by decide) rfl ([]) rfl (Nat.le_of_ble_eq_true rfl) (by decide) dX12_prefixAt_31 (fun _ _ _ q => q.elim) (fun v9 A9 h9 hR9 => ?_)
      obtain ⟨rfl, hA9, rfl⟩ := hR9
      obtain rfl := hA9.symm
      refine v_st (k2 := 0) (n2 := 0) (st2 := [.int ((V_X12_isWrong (S_X12_isNoPrefix g (x) (y)) (0)))]) rfl rfl rfl ?_
      refine v_if_eq (pc := 34) (tgt := 39) C dX12_prefixAt_34 (by decide) (fun c_8 => ?_) (fun c_8 => ?_)
      · skip
        refine v_aload_n (pc := 39) C dX12_prefixAt_39 0 rfl rfl ?_
        refine v_iconst (v := 0) (pc := 40) C dX12_prefixAt_40 rfl ?_
        refine v_iload_n (pc := 41) C dX12_prefixAt_41 1 rfl rfl ?_
        refine v_iload_n (pc := 42) C dX12_prefixAt_42 2 rfl rfl ?_
        refine v_iconst (v := 1) (pc := 43) C dX12_prefixAt_43 rfl ?_
        refine v_iload_n (pc := 44) C dX12_prefixAt_44 3 rfl rfl ?_
        refine v_callV (pc := 45) C (40, 0) ck_40 rfl (c_X12_prefixOf hG (0) (x) (y) (1) (z) (by (try simp only [Int32.le_iff_toInt_le, Int32.lt_iff_toInt_lt, ← Int32.toInt_inj, Int32.reduceToInt] at c_2 c_6 c_8 b_1 b_3 b_4 b_5 hu hg hf hl0 hl ⊢); omega) (by (try simp only [Int32.le_iff_toInt_le, Int32.lt_iff_toInt_lt, ← Int32.toInt_inj, Int32.reduceToInt] at c_2 c_6 c_8 b_1 b_3 b_4 b_5 hu hg hf hl0 hl ⊢); omega) (by (try simp only [Int32.le_iff_toInt_le, Int32.lt_iff_toInt_lt, ← Int32.toInt_inj, Int32.reduceToInt] at c_2 c_6 c_8 b_1 b_3 b_4 b_5 hu hg hf hl0 hl ⊢); omega) (by (try simp only [Int32.le_iff_toInt_le, Int32.lt_iff_toInt_lt, ← Int32.toInt_inj, Int32.reduceToInt] at c_2 c_6 c_8 b_1 b_3 b_4 b_5 hu hg hf hl0 hl ⊢); omega) (by (try simp only [Int32.le_iff_toInt_le, Int32.lt_iff_toInt_lt, ← Int32.toInt_inj, Int32.reduceToInt] at c_2 c_6 c_8 b_1 b_3 b_4 b_5 hu hg hf hl0 hl ⊢); omega) (by rw [pre_g (g2 := (S_X12_isNoPrefix g (x) (y)))]; (try simp only [Int32.le_iff_toInt_le, Int32.lt_iff_toInt_lt, ← Int32.toInt_inj, Int32.reduceToInt] at c_2 c_6 c_8 b_1 b_3 b_4 b_5 hu hg hf hl0 hl); omega)) 5 wd_1777 wd_68 wd_1774 wd_1776 wd_58 (by decide +kernel) (by decide) (by decide) rfl ([]) rfl (Nat.le_of_ble_eq_true rfl) (by decide) dX12_prefixAt_45 (fun _ _ _ q => q.elim) (fun v9 A9 h9 hR9 => ?_)
        obtain ⟨rfl, hA9, rfl⟩ := hR9
        obtain rfl := hA9.symm
        refine v_st (k2 := 0) (n2 := 0) (st2 := [.int ((V_X12_prefixOf (S_X12_isWrong (S_X12_isNoPrefix g (x) (y)) (0)) (0) (x) (y) (1) (z)))]) rfl rfl rfl ?_
        exact v_iret (pc := 48) C (by decide) (by decide) dX12_prefixAt_48 ⟨(congrArg (fun q => some (Value.int q)) (by show _ = _; rw [V_X12_prefixAt, if_pos c_2, if_neg c_6])), rfl, (congrArg (fun q => wm q r) (by show _ = _; rw [S_X12_prefixAt, if_pos c_2, if_neg c_6]))⟩
      · skip
        exact absurd c_8 (fun q9 => q9 ((show (0 : Int32) = 0 from rfl)))
