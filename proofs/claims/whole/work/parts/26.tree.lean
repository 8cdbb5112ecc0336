
theorem i32_mulr2 {x : Int32} (h0 : 0 ≤ x.toInt) (h : x.toInt ≤ 1000000) : (x * 2).toInt = 2 * x.toInt := by
  rw [Int32.toInt_mul, show (2 : Int32).toInt = 2 from by decide]
  rw [Int.mul_comm]
  apply Int.bmod_eq_of_le <;> omega
theorem i32_sub {x y : Int32} (hx : 0 ≤ x.toInt) (hy : 0 ≤ y.toInt) : (x - y).toInt = x.toInt - y.toInt := by
  have h1 := Int32.toInt_lt x
  have h2 := Int32.toInt_lt y
  rw [Int32.toInt_sub]
  apply Int.bmod_eq_of_le <;> omega
theorem tn_half {x k : Int32} (h : ¬ x ≤ 2 * k) (h1 : 1 ≤ k.toInt) (hx : x.toInt ≤ 300) (hk : k.toInt ≤ 600) : (x - k * 2).toNatClampNeg + 1 ≤ (x - k).toNatClampNeg ∧ 1 ≤ (k * 2).toInt ∧ (k * 2).toInt ≤ 600 := by
  rw [Int32.le_iff_toInt_le, i32_two (by omega) (by omega)] at h
  have e := i32_mulr2 (x := k) (by omega) (by omega)
  have e1 : (x - k * 2).toInt = x.toInt - 2 * k.toInt := by rw [i32_sub (by omega) (by omega), e]
  have e2 : (x - k).toInt = x.toInt - k.toInt := i32_sub (by omega) (by omega)
  refine ⟨?_, by omega, by omega⟩
  show (x - k * 2).toInt.toNat + 1 ≤ (x - k).toInt.toNat
  omega
theorem tn_half0 {x : Int32} (h0 : 0 ≤ x.toInt) (hx : x.toInt ≤ 300) : (x - 1).toNatClampNeg + 1 ≤ 301 := by
  show (x - 1).toInt.toNat + 1 ≤ 301
  rw [i32_sub h0 (by decide), show (1 : Int32).toInt = 1 from by decide]
  omega

def VL_X12_half_2 (g : vS) (x : Int32) : Nat → Int32 → Int32
  | 0, _ => 0
  | n + 1, x_2_1 => (if x ≤ (2 * x_2_1) then x_2_1 else (VL_X12_half_2 g x n ((x_2_1 * 2))))
def V_X12_half (g : vS) (x : Int32) : Int32 := (VL_X12_half_2 g x (300 + 1) (1))
set_option maxHeartbeats 4000000 in
set_option maxRecDepth 100000 in
theorem c_X12_half {G : vG} (hG : G.1.stackTraces = false) {A : vN → Nat} {g : vS} {r : vH} (x : Int32) (hx0 : 0 ≤ x.toInt) (hx : x.toInt ≤ 300) : vCt G yX12_half cX12_half 2 (some .int) 0 [.int (x)] A (wm g r) (fun v A2 h2 => v = some (.int (V_X12_half g x)) ∧ A2 = A ∧ h2 = wm g r) (vNoX) 0 0 := by
  refine v_of hG (by decide +kernel) (Nat.le_of_ble_eq_true rfl) (lv := [(0, .int (x))]) rfl (fun X C hnx => ?_)
  have C : vC G X cX12_half 2 RX12 (some .int) "half" 0 0 0 := C
  refine v_iconst (v := 1) (pc := 0) C dX12_half_0 rfl ?_
  refine v_istore_n (lv2 := [(1, .int (1)), (0, .int (x))]) (pc := 1) C dX12_half_1 rfl (by decide) rfl ?_
  have L_2 : ∀ (n : Nat) (x_2_1 : Int32), (x - x_2_1).toNatClampNeg + 1 ≤ n → 1 ≤ (x_2_1).toInt ∧ (x_2_1).toInt ≤ 600 → (V_X12_half g x) = VL_X12_half_2 g x n x_2_1 → V G 2 X A (wm g r) 0 0 (vM G X (fun v A2 h2 => v = some (.int (V_X12_half g x)) ∧ A2 = A ∧ h2 = wm g r) (vNoX) 0 0) 2 [(1, .int (x_2_1)), (0, .int (x))] [] := by
    intro n
    induction n with
    | zero => intro x_2_1 hc_2 hk_2 eV_2; exact absurd hc_2 (by omega)
    | succ n ih =>
      intro x_2_1 hc_2 hk_2 eV_2
      refine v_iconst (v := 2) (pc := 2) C dX12_half_2 rfl ?_
      refine v_iload_n (pc := 3) C dX12_half_3 0 rfl rfl ?_
      refine v_imul (pc := 4) C dX12_half_4 ?_
      refine v_iload_n (pc := 5) C dX12_half_5 1 rfl rfl ?_
      refine v_icmp_ge (pc := 6) (tgt := 16) C dX12_half_6 (by decide) (fun c_1 => ?_) (fun c_1 => ?_)
      · skip
        refine v_iload_n (pc := 16) C dX12_half_16 0 rfl rfl ?_
        exact v_iret (pc := 17) C (by decide) (by decide) dX12_half_17 ⟨(congrArg (fun q => some (Value.int q)) (by show _ = _; rw [eV_2, VL_X12_half_2, if_pos c_1])), rfl, rfl⟩
      · skip
        refine v_iload_n (pc := 9) C dX12_half_9 0 rfl rfl ?_
        refine v_iconst (v := 2) (pc := 10) C dX12_half_10 rfl ?_
        refine v_imul (pc := 11) C dX12_half_11 ?_
        refine v_istore_n (lv2 := [(1, .int ((x_2_1 * 2))), (0, .int (x))]) (pc := 12) C dX12_half_12 rfl (by decide) rfl ?_
        refine v_goto (tgt := 2) (pc := 13) C dX12_half_13 (by decide) ?_
        refine v_lv (lv2 := [(1, .int ((x_2_1 * 2))), (0, .int (x))]) [0, 1] rfl ?_
        exact ih ((x_2_1 * 2))  (Nat.le_of_add_le_add_right (Nat.le_trans (Nat.add_le_add_right (tn_half c_1 hk_2.1 hx hk_2.2).1 1) hc_2))  (tn_half c_1 hk_2.1 hx hk_2.2).2 (by rw [eV_2, VL_X12_half_2, if_neg c_1])
  exact L_2 (300 + 1) (1)  (tn_half0 hx0 hx)  (by decide) (by rw [V_X12_half])

theorem i32_addn {x y : Int32} (hx : 0 ≤ x.toInt) (hy : 0 ≤ y.toInt) (h : x.toInt + y.toInt ≤ 300) : (x + y).toInt = x.toInt + y.toInt := by
  rw [Int32.toInt_add]
  apply Int.bmod_eq_of_le <;> omega
theorem half_g {g g2 : vS} {x : Int32} : ∀ (n : Nat) (k : Int32), VL_X12_half_2 g x n k = VL_X12_half_2 g2 x n k := by
  intro n
  induction n with
  | zero => intro k; rfl
  | succ n ih => intro k; simp only [VL_X12_half_2]; split <;> first | rfl | exact ih _
theorem half_t : ∀ n, n < 299 → 1 ≤ (V_X12_half (fun _ _ _ => 0) (nI (n + 2))).toInt ∧ (V_X12_half (fun _ _ _ => 0) (nI (n + 2))).toInt < ((n + 2 : Nat) : Int) := by decide +kernel
theorem ok_half {g : vS} {x : Int32} (h0 : 0 ≤ x.toInt) (h : x.toInt ≤ 300) : x.toInt < 2 ∨ (1 ≤ (V_X12_half g x).toInt ∧ (V_X12_half g x).toInt < x.toInt) := by
  by_cases q : x.toInt < 2
  · exact Or.inl q
  · refine Or.inr ?_
    have h3 : ¬ x < 0 := by rw [Int32.lt_iff_toInt_lt, show (0 : Int32).toInt = 0 from by decide]; omega
    have h4 : (x.toNatClampNeg - 2) + 2 = x.toNatClampNeg := by
      show (x.toInt.toNat - 2) + 2 = x.toInt.toNat
      omega
    have e : x = nI ((x.toNatClampNeg - 2) + 2) := by rw [h4, nI_tn h3]
    have t := half_t (x.toNatClampNeg - 2) (by show x.toInt.toNat - 2 < 299; omega)
    rw [← e] at t
    have e2 : V_X12_half g x = V_X12_half (fun _ _ _ => 0) x := half_g _ _
    rw [e2]
    refine ⟨t.1, ?_⟩
    have t2 := t.2
    rw [h4] at t2
    have e3 : ((x.toNatClampNeg : Nat) : Int) = x.toInt := by
      show ((x.toInt.toNat : Nat) : Int) = x.toInt
      omega
    rw [e3] at t2
    exact t2

def VR_X12_rootOf (g : vS) : Nat → Int32 → Int32 → Int32
  | 0, _, _ => 0
  | n + 1, a, y => (if y = 0 then 0 else (if y = 1 then pMix (8) ((g 73 (a).toNatClampNeg 0)) else pMix (pMix (9) ((VR_X12_rootOf g n (a) ((V_X12_half g (y)))))) ((VR_X12_rootOf g n ((a + (V_X12_half g (y)))) ((y - (V_X12_half g (y))))))))
set_option maxHeartbeats 4000000 in
set_option maxRecDepth 100000 in
theorem c_X12_rootOf_s {G : vG} (hG : G.1.stackTraces = false) {A : vN → Nat} {g : vS} {r : vH} (n : Nat) (ih : ∀ (a : Int32) (y : Int32), y.toInt ≤ ((n : Nat) : Int) → 0 ≤ a.toInt → 0 ≤ y.toInt → a.toInt + y.toInt ≤ 300 → vCt G yX12_rootOf cX12_rootOf 4 (some .int) (2 + n) [.ref (A (40, 0)), .int (a), .int (y)] A (wm g r) (fun v A2 h2 => v = some (.int (VR_X12_rootOf g n a y)) ∧ A2 = A ∧ h2 = wm g r) vNoX 0 0) (a : Int32) (y : Int32) (h1 : y.toInt ≤ (((n + 1) : Nat) : Int)) (a0 : 0 ≤ a.toInt) (y0 : 0 ≤ y.toInt) (ay : a.toInt + y.toInt ≤ 300) : vCt G yX12_rootOf cX12_rootOf 4 (some .int) (2 + (n + 1)) [.ref (A (40, 0)), .int (a), .int (y)] A (wm g r) (fun v A2 h2 => v = some (.int (VR_X12_rootOf g (n + 1) a y)) ∧ A2 = A ∧ h2 = wm g r) (vNoX) 0 0 := by
  refine v_of hG (by decide +kernel) (Nat.le_of_ble_eq_true rfl) (lv := [(0, .ref (A (40, 0))), (1, .int (a)), (2, .int (y))]) rfl (fun X C hnx => ?_)
  have C : vC G X cX12_rootOf 4 RX12 (some .int) "rootOf" (2 + (n + 1)) 0 0 := C
  refine v_iload_n (pc := 0) C dX12_rootOf_0 2 rfl rfl ?_
  refine v_if_ne (pc := 1) (tgt := 6) C dX12_rootOf_1 (by decide) (fun c_1 => ?_) (fun c_1 => ?_)
  · skip
    refine v_iload_n (pc := 6) C dX12_rootOf_6 2 rfl rfl ?_
    refine v_iconst (v := 1) (pc := 7) C dX12_rootOf_7 rfl ?_
    refine v_icmp_ne (pc := 8) (tgt := 23) C dX12_rootOf_8 (by decide) (fun c_2 => ?_) (fun c_2 => ?_)
    · skip
      refine v_iload_n (pc := 23) C dX12_rootOf_23 2 rfl rfl ?_
      refine v_callS (pc := 24) C (c_X12_half hG (y) (by (try simp only [Int32.le_iff_toInt_le, Int32.lt_iff_toInt_lt, ← Int32.toInt_inj, Int32.reduceToInt] at c_1 c_2 a0 y0 ay h1 ⊢); omega) (by (try simp only [Int32.le_iff_toInt_le, Int32.lt_iff_toInt_lt, ← Int32.toInt_inj, Int32.reduceToInt] at c_1 c_2 a0 y0 ay h1 ⊢); omega)) 1 wd_1739 wd_68 wd_1737 wd_1738 (by decide +kernel) (by omega) (by decide) rfl ([]) rfl (Nat.le_of_ble_eq_true rfl) (by decide) dX12_rootOf_24 (fun _ _ _ q => q.elim) (fun v9 A9 h9 hR9 => ?_)
      obtain ⟨rfl, hA9, rfl⟩ := hR9
      obtain rfl := hA9.symm
      refine v_st (k2 := 0) (n2 := 0) (st2 := [.int ((V_X12_half g (y)))]) rfl rfl rfl ?_
      have b_3 := ok_half (g := g) (x := y) (by (try simp only [Int32.le_iff_toInt_le, Int32.lt_iff_toInt_lt, ← Int32.toInt_inj, Int32.reduceToInt] at c_1 c_2 a0 y0 ay h1 ⊢); omega) (by (try simp only [Int32.le_iff_toInt_le, Int32.lt_iff_toInt_lt, ← Int32.toInt_inj, Int32.reduceToInt] at c_1 c_2 a0 y0 ay h1 ⊢); omega)
      refine v_istore_n (lv2 := [(3, .int ((V_X12_half g (y)))), (0, .ref (A (40, 0))), (1, .int (a)), (2, .int (y))]) (pc := 27) C dX12_rootOf_27 rfl (by decide) rfl ?_
      refine v_bipush (v := 9) (pc := 28) C dX12_rootOf_28 (by decide) ?_
      refine v_aload_n (pc := 30) C dX12_rootOf_30 1 rfl rfl ?_
      refine v_iload_n (pc := 31) C dX12_rootOf_31 2 rfl rfl ?_
      refine v_iload_n (pc := 32) C dX12_rootOf_32 0 rfl rfl ?_
      refine v_callV (pc := 33) C (40, 0) ck_40 rfl (ih (a) ((V_X12_half g (y))) (by (try simp only [Int32.le_iff_toInt_le, Int32.lt_iff_toInt_lt, ← Int32.toInt_inj, Int32.reduceToInt] at c_1 c_2 b_3 a0 y0 ay h1 ⊢); omega) (by (try simp only [Int32.le_iff_toInt_le, Int32.lt_iff_toInt_lt, ← Int32.toInt_inj, Int32.reduceToInt] at c_1 c_2 b_3 a0 y0 ay h1 ⊢); omega) (by (try simp only [Int32.le_iff_toInt_le, Int32.lt_iff_toInt_lt, ← Int32.toInt_inj, Int32.reduceToInt] at c_1 c_2 b_3 a0 y0 ay h1 ⊢); omega) (by (try simp only [Int32.le_iff_toInt_le, Int32.lt_iff_toInt_lt, ← Int32.toInt_inj, Int32.reduceToInt] at c_1 c_2 b_3 a0 y0 ay h1 ⊢); omega)) 2 wd_1736 wd_68 wd_1733 wd_1735 wd_54 (by decide +kernel) (by omega) (by decide) rfl ([.int (9)]) rfl (Nat.le_of_ble_eq_true rfl) (by decide) dX12_rootOf_33 (fun _ _ _ q => q.elim) (fun v9 A9 h9 hR9 => ?_)
      obtain ⟨rfl, hA9, rfl⟩ := hR9
      obtain rfl := hA9.symm
      refine v_st (k2 := 0) (n2 := 0) (st2 := [.int ((VR_X12_rootOf g n (a) ((V_X12_half g (y))))), .int (9)]) rfl rfl rfl ?_
      refine v_callS (pc := 36) C (c_X12_mix hG (9) ((VR_X12_rootOf g n (a) ((V_X12_half g (y)))))) 2 wd_1554 wd_68 wd_1552 wd_1553 (by decide +kernel) (by omega) (by decide) rfl ([]) rfl (Nat.le_of_ble_eq_true rfl) (by decide) dX12_rootOf_36 (fun _ _ _ q => q.elim) (fun v9 A9 h9 hR9 => ?_)
      obtain ⟨rfl, hA9, rfl⟩ := hR9
      obtain rfl := hA9.symm
      refine v_st (k2 := 0) (n2 := 0) (st2 := [.int (pMix (9) ((VR_X12_rootOf g n (a) ((V_X12_half g (y))))))]) rfl rfl rfl ?_
      refine v_aload_n (pc := 39) C dX12_rootOf_39 1 rfl rfl ?_
      refine v_iload_n (pc := 40) C dX12_rootOf_40 2 rfl rfl ?_
      refine v_iload_n (pc := 41) C dX12_rootOf_41 0 rfl rfl ?_
      refine v_iadd (pc := 42) C dX12_rootOf_42 ?_
      refine v_iload_n (pc := 43) C dX12_rootOf_43 3 rfl rfl ?_
      refine v_iload_n (pc := 44) C dX12_rootOf_44 0 rfl rfl ?_
      refine v_isub (pc := 45) C dX12_rootOf_45 ?_
      have b_4 : ((y - (V_X12_half g (y)))).toInt = (y).toInt - ((V_X12_half g (y))).toInt := i32_sub (by (try simp only [Int32.le_iff_toInt_le, Int32.lt_iff_toInt_lt, ← Int32.toInt_inj, Int32.reduceToInt] at c_1 c_2 b_3 a0 y0 ay h1); omega) (by (try simp only [Int32.le_iff_toInt_le, Int32.lt_iff_toInt_lt, ← Int32.toInt_inj, Int32.reduceToInt] at c_1 c_2 b_3 a0 y0 ay h1); omega)
      have b_5 : ((a + (V_X12_half g (y)))).toInt = (a).toInt + ((V_X12_half g (y))).toInt := i32_addn (by (try simp only [Int32.le_iff_toInt_le, Int32.lt_iff_toInt_lt, ← Int32.toInt_inj, Int32.reduceToInt] at c_1 c_2 b_3 a0 y0 ay h1); omega) (by (try simp only [Int32.le_iff_toInt_le, Int32.lt_iff_toInt_lt, ← Int32.toInt_inj, Int32.reduceToInt] at c_1 c_2 b_3 a0 y0 ay h1); omega) (by (try simp only [Int32.le_iff_toInt_le, Int32.lt_iff_toInt_lt, ← Int32.toInt_inj, Int32.reduceToInt] at c_1 c_2 b_3 a0 y0 ay h1); omega)
      refine v_callV (pc := 46) C (40, 0) ck_40 rfl (ih ((a + (V_X12_half g (y)))) ((y - (V_X12_half g (y)))) (by (try simp only [Int32.le_iff_toInt_le, Int32.lt_iff_toInt_lt, ← Int32.toInt_inj, Int32.reduceToInt] at c_1 c_2 b_3 b_4 b_5 a0 y0 ay h1 ⊢); omega) (by (try simp only [Int32.le_iff_toInt_le, Int32.lt_iff_toInt_lt, ← Int32.toInt_inj, Int32.reduceToInt] at c_1 c_2 b_3 b_4 b_5 a0 y0 ay h1 ⊢); omega) (by (try simp only [Int32.le_iff_toInt_le, Int32.lt_iff_toInt_lt, ← Int32.toInt_inj, Int32.reduceToInt] at c_1 c_2 b_3 b_4 b_5 a0 y0 ay h1 ⊢); omega) (by (try simp only [Int32.le_iff_toInt_le, Int32.lt_iff_toInt_lt, ← Int32.toInt_inj, Int32.reduceToInt] at c_1 c_2 b_3 b_4 b_5 a0 y0 ay h1 ⊢); omega)) 2 wd_1736 wd_68 wd_1733 wd_1735 wd_54 (by decide +kernel) (by omega) (by decide) rfl ([.int (pMix (9) ((VR_X12_rootOf g n (a) ((V_X12_half g (y))))))]) rfl (Nat.le_of_ble_eq_true rfl) (by decide) dX12_rootOf_46 (fun _ _ _ q => q.elim) (fun v9 A9 h9 hR9 => ?_)
      obtain ⟨rfl, hA9, rfl⟩ := hR9
      obtain rfl := hA9.symm
      refine v_st (k2 := 0) (n2 := 0) (st2 := [.int ((VR_X12_rootOf g n ((a + (V_X12_half g (y)))) ((y - (V_X12_half g (y)))))), .int (pMix (9) ((VR_X12_rootOf g n (a) ((V_X12_half g (y))))))]) rfl rfl rfl ?_
      refine v_callS (pc := 49) C (c_X12_mix hG (pMix (9) ((VR_X12_rootOf g n (a) ((V_X12_half g (y)))))) ((VR_X12_rootOf g n ((a + (V_X12_half g (y)))) ((y - (V_X12_half g (y))))))) 2 wd_1554 wd_68 wd_1552 wd_1553 (by decide +kernel) (by omega) (by decide) rfl ([]) rfl (Nat.le_of_ble_eq_true rfl) (by decide) dX12_rootOf_49 (fun _ _ _ q => q.elim) (fun v9 A9 h9 hR9 => ?_)
      obtain ⟨rfl, hA9, rfl⟩ := hR9
      obtain rfl := hA9.symm
      refine v_st (k2 := 0) (n2 := 0) (st2 := [.int (pMix (pMix (9) ((VR_X12_rootOf g n (a) ((V_X12_half g (y)))))) ((VR_X12_rootOf g n ((a + (V_X12_half g (y)))) ((y - (V_X12_half g (y)))))))]) rfl rfl rfl ?_
      exact v_iret (pc := 52) C (by decide) (by decide) dX12_rootOf_52 ⟨(congrArg (fun q => some (Value.int q)) (by show _ = _; rw [VR_X12_rootOf, if_neg c_1, if_neg c_2])), rfl, rfl⟩
    · skip
      refine v_bipush (v := 8) (pc := 11) C dX12_rootOf_11 (by decide) ?_
      refine v_aload_n (pc := 13) C dX12_rootOf_13 0 rfl rfl ?_
      refine v_get (pc := 14) C (40, 0) (v := .ref (A (73, 0))) ck_40 rfl 35 (by decide) inX12 wd_1423 rfl rfl dX12_rootOf_14 ?_
      refine v_iload_n (pc := 17) C dX12_rootOf_17 1 rfl rfl ?_
      refine v_iald (pc := 18) C (73, 0) (v := (g 73 (a).toNatClampNeg 0)) ck_73 (by (try simp only [Int32.le_iff_toInt_le, Int32.lt_iff_toInt_lt, ← Int32.toInt_inj, vp_in_iff, Int32.reduceToInt] at c_1 c_2 a0 y0 ay h1 ⊢) <;> omega) rfl dX12_rootOf_18 ?_
      refine v_callS (pc := 19) C (c_X12_mix hG (8) ((g 73 (a).toNatClampNeg 0))) 2 wd_1554 wd_68 wd_1552 wd_1553 (by decide +kernel) (by omega) (by decide) rfl ([]) rfl (Nat.le_of_ble_eq_true rfl) (by decide) dX12_rootOf_19 (fun _ _ _ q => q.elim) (fun v9 A9 h9 hR9 => ?_)
      obtain ⟨rfl, hA9, rfl⟩ := hR9
      obtain rfl := hA9.symm
      refine v_st (k2 := 0) (n2 := 0) (st2 := [.int (pMix (8) ((g 73 (a).toNatClampNeg 0)))]) rfl rfl rfl ?_
      exact v_iret (pc := 22) C (by decide) (by decide) dX12_rootOf_22 ⟨(congrArg (fun q => some (Value.int q)) (by show _ = _; rw [VR_X12_rootOf, if_neg c_1, if_pos c_2])), rfl, rfl⟩
  · skip
    refine v_iconst (v := 0) (pc := 4) C dX12_rootOf_4 rfl ?_
    exact v_iret (pc := 5) C (by decide) (by decide) dX12_rootOf_5 ⟨(congrArg (fun q => some (Value.int q)) (by show _ = _; rw [VR_X12_rootOf, if_pos c_1])), rfl, rfl⟩
set_option maxHeartbeats 4000000 in
set_option maxRecDepth 100000 in
theorem c_X12_rootOf_z {G : vG} (hG : G.1.stackTraces = false) {A : vN → Nat} {g : vS} {r : vH} (a : Int32) (y : Int32) (h1 : y.toInt ≤ ((0 : Nat) : Int)) (a0 : 0 ≤ a.toInt) (y0 : 0 ≤ y.toInt) (ay : a.toInt + y.toInt ≤ 300) : vCt G yX12_rootOf cX12_rootOf 4 (some .int) (2 + 0) [.ref (A (40, 0)), .int (a), .int (y)] A (wm g r) (fun v A2 h2 => v = some (.int (VR_X12_rootOf g 0 a y)) ∧ A2 = A ∧ h2 = wm g r) (vNoX) 0 0 := by
  refine v_of hG (by decide +kernel) (Nat.le_of_ble_eq_true rfl) (lv := [(0, .ref (A (40, 0))), (1, .int (a)), (2, .int (y))]) rfl (fun X C hnx => ?_)
  have C : vC G X cX12_rootOf 4 RX12 (some .int) "rootOf" (2 + 0) 0 0 := C
  refine v_iload_n (pc := 0) C dX12_rootOf_0 2 rfl rfl ?_
  refine v_if_ne (pc := 1) (tgt := 6) C dX12_rootOf_1 (by decide) (fun c_1 => ?_) (fun c_1 => ?_)
  · skip
    exact absurd c_1 (fun q9 => q9 (Int32.toInt_inj.mp (by rw [show (0 : Int32).toInt = 0 from by decide]; omega)))
  · skip
    refine v_iconst (v := 0) (pc := 4) C dX12_rootOf_4 rfl ?_
    exact v_iret (pc := 5) C (by decide) (by decide) dX12_rootOf_5 ⟨(congrArg (fun q => some (Value.int q)) (by show _ = _; rw [VR_X12_rootOf])), rfl, rfl⟩
theorem c_X12_rootOf_n {G : vG} (hG : G.1.stackTraces = false) {A : vN → Nat} {g : vS} {r : vH} : ∀ (n : Nat) (a : Int32) (y : Int32), y.toInt ≤ ((n : Nat) : Int) → 0 ≤ a.toInt → 0 ≤ y.toInt → a.toInt + y.toInt ≤ 300 → vCt G yX12_rootOf cX12_rootOf 4 (some .int) (2 + n) [.ref (A (40, 0)), .int (a), .int (y)] A (wm g r) (fun v A2 h2 => v = some (.int (VR_X12_rootOf g n a y)) ∧ A2 = A ∧ h2 = wm g r) vNoX 0 0 := by
  intro n
  induction n with
  | zero => intro a y h1 a0 y0 ay; exact c_X12_rootOf_z hG a y h1 a0 y0 ay
  | succ n ih => intro a y h1 a0 y0 ay; exact c_X12_rootOf_s hG n ih a y h1 a0 y0 ay
def V_X12_rootOf (g : vS) (a : Int32) (y : Int32) : Int32 := VR_X12_rootOf g 300 a y
theorem c_X12_rootOf {G : vG} (hG : G.1.stackTraces = false) {A : vN → Nat} {g : vS} {r : vH} (a : Int32) (y : Int32) (h1 : y.toInt ≤ ((300 : Nat) : Int)) (a0 : 0 ≤ a.toInt) (y0 : 0 ≤ y.toInt) (ay : a.toInt + y.toInt ≤ 300) : vCt G yX12_rootOf cX12_rootOf 4 (some .int) 302 [.ref (A (40, 0)), .int (a), .int (y)] A (wm g r) (fun v A2 h2 => v = some (.int (V_X12_rootOf g a y)) ∧ A2 = A ∧ h2 = wm g r) vNoX 0 0 := c_X12_rootOf_n hG 300 a y h1 a0 y0 ay
def VR_X12_depth (g : vS) : Nat → Int32 → Int32 → Int32
  | 0, _, _ => 0
  | n + 1, y, x => (if y = 1 then 0 else (if (V_X12_half g (y)) ≤ x then (1 + (VR_X12_depth g n ((y - (V_X12_half g (y)))) ((x - (V_X12_half g (y)))))) else (1 + (VR_X12_depth g n ((V_X12_half g (y))) (x)))))
set_option maxHeartbeats 4000000 in
set_option maxRecDepth 100000 in
theorem c_X12_depth_s {G : vG} (hG : G.1.stackTraces = false) {A : vN → Nat} {g : vS} {r : vH} (n : Nat) (ih : ∀ (y : Int32) (x : Int32), y.toInt ≤ ((n : Nat) : Int) → 1 ≤ y.toInt → y.toInt ≤ 300 → vCt G yX12_depth cX12_depth 3 (some .int) (1 + n) [.int (y), .int (x)] A (wm g r) (fun v A2 h2 => v = some (.int (VR_X12_depth g n y x)) ∧ A2 = A ∧ h2 = wm g r) vNoX 0 0) (y : Int32) (x : Int32) (h1 : y.toInt ≤ (((n + 1) : Nat) : Int)) (y1 : 1 ≤ y.toInt) (yN : y.toInt ≤ 300) : vCt G yX12_depth cX12_depth 3 (some .int) (1 + (n + 1)) [.int (y), .int (x)] A (wm g r) (fun v A2 h2 => v = some (.int (VR_X12_depth g (n + 1) y x)) ∧ A2 = A ∧ h2 = wm g r) (vNoX) 0 0 := by
  refine v_of hG (by decide +kernel) (Nat.le_of_ble_eq_true rfl) (lv := [(0, .int (y)), (1, .int (x))]) rfl (fun X C hnx => ?_)
  have C : vC G X cX12_depth 3 RX12 (some .int) "depth" (1 + (n + 1)) 0 0 := C
  refine v_iload_n (pc := 0) C dX12_depth_0 0 rfl rfl ?_
  refine v_iconst (v := 1) (pc := 1) C dX12_depth_1 rfl ?_
  refine v_icmp_ne (pc := 2) (tgt := 7) C dX12_depth_2 (by decide) (fun c_1 => ?_) (fun c_1 => ?_)
  · skip
    refine v_iload_n (pc := 7) C dX12_depth_7 0 rfl rfl ?_
    refine v_callS (pc := 8) C (c_X12_half hG (y) (by (try simp only [Int32.le_iff_toInt_le, Int32.lt_iff_toInt_lt, ← Int32.toInt_inj, Int32.reduceToInt] at c_1 y1 yN h1 ⊢); omega) (by (try simp only [Int32.le_iff_toInt_le, Int32.lt_iff_toInt_lt, ← Int32.toInt_inj, Int32.reduceToInt] at c_1 y1 yN h1 ⊢); omega)) 1 wd_1739 wd_68 wd_1737 wd_1738 (by decide +kernel) (by omega) (by decide) rfl ([]) rfl (Nat.le_of_ble_eq_true rfl) (by decide) dX12_depth_8 (fun _ _ _ q => q.elim) (fun v9 A9 h9 hR9 => ?_)
    obtain ⟨rfl, hA9, rfl⟩ := hR9
    obtain rfl := hA9.symm
    refine v_st (k2 := 0) (n2 := 0) (st2 := [.int ((V_X12_half g (y)))]) rfl rfl rfl ?_
    have b_2 := ok_half (g := g) (x := y) (by (try simp only [Int32.le_iff_toInt_le, Int32.lt_iff_toInt_lt, ← Int32.toInt_inj, Int32.reduceToInt] at c_1 y1 yN h1 ⊢); omega) (by (try simp only [Int32.le_iff_toInt_le, Int32.lt_iff_toInt_lt, ← Int32.toInt_inj, Int32.reduceToInt] at c_1 y1 yN h1 ⊢); omega)
    refine v_istore_n (lv2 := [(2, .int ((V_X12_half g (y)))), (0, .int (y)), (1, .int (x))]) (pc := 11) C dX12_depth_11 rfl (by decide) rfl ?_
    refine v_iconst (v := 1) (pc := 12) C dX12_depth_12 rfl ?_
    refine v_iload_n (pc := 13) C dX12_depth_13 2 rfl rfl ?_
    refine v_iload_n (pc := 14) C dX12_depth_14 0 rfl rfl ?_
    refine v_icmp_ge (pc := 15) (tgt := 26) C dX12_depth_15 (by decide) (fun c_3 => ?_) (fun c_3 => ?_)
    · skip
      refine v_iload_n (pc := 26) C dX12_depth_26 1 rfl rfl ?_
      refine v_iload_n (pc := 27) C dX12_depth_27 0 rfl rfl ?_
      refine v_isub (pc := 28) C dX12_depth_28 ?_
      refine v_iload_n (pc := 29) C dX12_depth_29 2 rfl rfl ?_
      refine v_iload_n (pc := 30) C dX12_depth_30 0 rfl rfl ?_
      refine v_isub (pc := 31) C dX12_depth_31 ?_
      have b_4 : ((y - (V_X12_half g (y)))).toInt = (y).toInt - ((V_X12_half g (y))).toInt := i32_sub (by (try simp only [Int32.le_iff_toInt_le, Int32.lt_iff_toInt_lt, ← Int32.toInt_inj, Int32.reduceToInt] at c_1 c_3 b_2 y1 yN h1); omega) (by (try simp only [Int32.le_iff_toInt_le, Int32.lt_iff_toInt_lt, ← Int32.toInt_inj, Int32.reduceToInt] at c_1 c_3 b_2 y1 yN h1); omega)
      refine v_callS (pc := 32) C (ih ((y - (V_X12_half g (y)))) ((x - (V_X12_half g (y)))) (by (try simp only [Int32.le_iff_toInt_le, Int32.lt_iff_toInt_lt, ← Int32.toInt_inj, Int32.reduceToInt] at c_1 c_3 b_2 b_4 y1 yN h1 ⊢); omega) (by (try simp only [Int32.le_iff_toInt_le, Int32.lt_iff_toInt_lt, ← Int32.toInt_inj, Int32.reduceToInt] at c_1 c_3 b_2 b_4 y1 yN h1 ⊢); omega) (by (try simp only [Int32.le_iff_toInt_le, Int32.lt_iff_toInt_lt, ← Int32.toInt_inj, Int32.reduceToInt] at c_1 c_3 b_2 b_4 y1 yN h1 ⊢); omega)) 2 wd_1750 wd_68 wd_1748 wd_1749 (by decide +kernel) (by omega) (by decide) rfl ([.int (1)]) rfl (Nat.le_of_ble_eq_true rfl) (by decide) dX12_depth_32 (fun _ _ _ q => q.elim) (fun v9 A9 h9 hR9 => ?_)
      obtain ⟨rfl, hA9, rfl⟩ := hR9
      obtain rfl := hA9.symm
      refine v_st (k2 := 0) (n2 := 0) (st2 := [.int ((VR_X12_depth g n ((y - (V_X12_half g (y)))) ((x - (V_X12_half g (y)))))), .int (1)]) rfl rfl rfl ?_
      refine v_iadd (pc := 35) C dX12_depth_35 ?_
      exact v_iret (pc := 36) C (by decide) (by decide) dX12_depth_36 ⟨(congrArg (fun q => some (Value.int q)) (by show _ = _; rw [VR_X12_depth, if_neg c_1, if_pos c_3])), rfl, rfl⟩
    · skip
      refine v_iload_n (pc := 18) C dX12_depth_18 0 rfl rfl ?_
      refine v_iload_n (pc := 19) C dX12_depth_19 2 rfl rfl ?_
      refine v_callS (pc := 20) C (ih ((V_X12_half g (y))) (x) (by (try simp only [Int32.le_iff_toInt_le, Int32.lt_iff_toInt_lt, ← Int32.toInt_inj, Int32.reduceToInt] at c_1 c_3 b_2 y1 yN h1 ⊢); omega) (by (try simp only [Int32.le_iff_toInt_le, Int32.lt_iff_toInt_lt, ← Int32.toInt_inj, Int32.reduceToInt] at c_1 c_3 b_2 y1 yN h1 ⊢); omega) (by (try simp only [Int32.le_iff_toInt_le, Int32.lt_iff_toInt_lt, ← Int32.toInt_inj, Int32.reduceToInt] at c_1 c_3 b_2 y1 yN h1 ⊢); omega)) 2 wd_1750 wd_68 wd_1748 wd_1749 (by decide +kernel) (by omega) (by decide) rfl ([.int (1)]) rfl (Nat.le_of_ble_eq_true rfl) (by decide) dX12_depth_20 (fun _ _ _ q => q.elim) (fun v9 A9 h9 hR9 => ?_)
      obtain ⟨rfl, hA9, rfl⟩ := hR9
      obtain rfl := hA9.symm
      refine v_st (k2 := 0) (n2 := 0) (st2 := [.int ((VR_X12_depth g n ((V_X12_half g (y))) (x))), .int (1)]) rfl rfl rfl ?_
      refine v_goto (tgt := 35) (pc := 23) C dX12_depth_23 (by decide) ?_
      refine v_iadd (pc := 35) C dX12_depth_35 ?_
      exact v_iret (pc := 36) C (by decide) (by decide) dX12_depth_36 ⟨(congrArg (fun q => some (Value.int q)) (by show _ = _; rw [VR_X12_depth, if_neg c_1, if_neg c_3])), rfl, rfl⟩
  · skip
    refine v_iconst (v := 0) (pc := 5) C dX12_depth_5 rfl ?_
    exact v_iret (pc := 6) C (by decide) (by decide) dX12_depth_6 ⟨(congrArg (fun q => some (Value.int q)) (by show _ = _; rw [VR_X12_depth, if_pos c_1])), rfl, rfl⟩
set_option maxHeartbeats 4000000 in
set_option maxRecDepth 100000 in
theorem c_X12_depth_z {G : vG} (hG : G.1.stackTraces = false) {A : vN → Nat} {g : vS} {r : vH} (y : Int32) (x : Int32) (h1 : y.toInt ≤ ((0 : Nat) : Int)) (y1 : 1 ≤ y.toInt) (yN : y.toInt ≤ 300) : vCt G yX12_depth cX12_depth 3 (some .int) (1 + 0) [.int (y), .int (x)] A (wm g r) (fun v A2 h2 => v = some (.int (VR_X12_depth g 0 y x)) ∧ A2 = A ∧ h2 = wm g r) (vNoX) 0 0 := by
  refine v_of hG (by decide +kernel) (Nat.le_of_ble_eq_true rfl) (lv := [(0, .int (y)), (1, .int (x))]) rfl (fun X C hnx => ?_)
  have C : vC G X cX12_depth 3 RX12 (some .int) "depth" (1 + 0) 0 0 := C
  refine v_iload_n (pc := 0) C dX12_depth_0 0 rfl rfl ?_
  refine v_iconst (v := 1) (pc := 1) C dX12_depth_1 rfl ?_
  refine v_icmp_ne (pc := 2) (tgt := 7) C dX12_depth_2 (by decide) (fun c_1 => ?_) (fun c_1 => ?_)
  · skip
    exact absurd c_1 (by exfalso; omega)
  · skip
    refine v_iconst (v := 0) (pc := 5) C dX12_depth_5 rfl ?_
    exact v_iret (pc := 6) C (by decide) (by decide) dX12_depth_6 ⟨(congrArg (fun q => some (Value.int q)) (by show _ = _; rw [VR_X12_depth])), rfl, rfl⟩
theorem c_X12_depth_n {G : vG} (hG : G.1.stackTraces = false) {A : vN → Nat} {g : vS} {r : vH} : ∀ (n : Nat) (y : Int32) (x : Int32), y.toInt ≤ ((n : Nat) : Int) → 1 ≤ y.toInt → y.toInt ≤ 300 → vCt G yX12_depth cX12_depth 3 (some .int) (1 + n) [.int (y), .int (x)] A (wm g r) (fun v A2 h2 => v = some (.int (VR_X12_depth g n y x)) ∧ A2 = A ∧ h2 = wm g r) vNoX 0 0 := by
  intro n
  induction n with
  | zero => intro y x h1 y1 yN; exact c_X12_depth_z hG y x h1 y1 yN
  | succ n ih => intro y x h1 y1 yN; exact c_X12_depth_s hG n ih y x h1 y1 yN
def V_X12_depth (g : vS) (y : Int32) (x : Int32) : Int32 := VR_X12_depth g 300 y x
theorem c_X12_depth {G : vG} (hG : G.1.stackTraces = false) {A : vN → Nat} {g : vS} {r : vH} (y : Int32) (x : Int32) (h1 : y.toInt ≤ ((300 : Nat) : Int)) (y1 : 1 ≤ y.toInt) (yN : y.toInt ≤ 300) : vCt G yX12_depth cX12_depth 3 (some .int) 301 [.int (y), .int (x)] A (wm g r) (fun v A2 h2 => v = some (.int (V_X12_depth g y x)) ∧ A2 = A ∧ h2 = wm g r) vNoX 0 0 := c_X12_depth_n hG 300 y x h1 y1 yN
def VR_X12_prefixMany (g : vS) : Nat → Int32 → Int32 → Int32 → Int32
  | 0, _, _, _ => 0
  | n + 1, x, y, zz => (if x = y then (if zz = 0 then 1 else 0) else (if (V_X12_half g (y)) < x then (1 + (VR_X12_prefixMany g n ((x - (V_X12_half g (y)))) ((y - (V_X12_half g (y)))) (0))) else (1 + (VR_X12_prefixMany g n (x) ((V_X12_half g (y))) (zz)))))
set_option maxHeartbeats 4000000 in
set_option maxRecDepth 100000 in
theorem c_X12_prefixMany_s {G : vG} (hG : G.1.stackTraces = false) {A : vN → Nat} {g : vS} {r : vH} (n : Nat) (ih : ∀ (x : Int32) (y : Int32) (zz : Int32), y.toInt ≤ ((n : Nat) : Int) → 1 ≤ x.toInt → x.toInt ≤ y.toInt → y.toInt ≤ 300 → vCt G yX12_prefixMany cX12_prefixMany 4 (some .int) (1 + n) [.int (x), .int (y), .int (zz)] A (wm g r) (fun v A2 h2 => v = some (.int (VR_X12_prefixMany g n x y zz)) ∧ A2 = A ∧ h2 = wm g r) vNoX 0 0) (x : Int32) (y : Int32) (zz : Int32) (h1 : y.toInt ≤ (((n + 1) : Nat) : Int)) (x1 : 1 ≤ x.toInt) (xy : x.toInt ≤ y.toInt) (yN : y.toInt ≤ 300) : vCt G yX12_prefixMany cX12_prefixMany 4 (some .int) (1 + (n + 1)) [.int (x), .int (y), .int (zz)] A (wm g r) (fun v A2 h2 => v = some (.int (VR_X12_prefixMany g (n + 1) x y zz)) ∧ A2 = A ∧ h2 = wm g r) (vNoX) 0 0 := by
  refine v_of hG (by decide +kernel) (Nat.le_of_ble_eq_true rfl) (lv := [(0, .int (x)), (1, .int (y)), (2, .int (zz))]) rfl (fun X C hnx => ?_)
  have C : vC G X cX12_prefixMany 4 RX12 (some .int) "prefixMany" (1 + (n + 1)) 0 0 := C
  refine v_iload_n (pc := 0) C dX12_prefixMany_0 0 rfl rfl ?_
  refine v_iload_n (pc := 1) C dX12_prefixMany_1 1 rfl rfl ?_
  refine v_icmp_ne (pc := 2) (tgt := 15) C dX12_prefixMany_2 (by decide) (fun c_1 => ?_) (fun c_1 => ?_)
  · skip
    refine v_iload_n (pc := 15) C dX12_prefixMany_15 1 rfl rfl ?_
    refine v_callS (pc := 16) C (c_X12_half hG (y) (by (try simp only [Int32.le_iff_toInt_le, Int32.lt_iff_toInt_lt, ← Int32.toInt_inj, Int32.reduceToInt] at c_1 x1 xy yN h1 ⊢); omega) (by (try simp only [Int32.le_iff_toInt_le, Int32.lt_iff_toInt_lt, ← Int32.toInt_inj, Int32.reduceToInt] at c_1 x1 xy yN h1 ⊢); omega)) 1 wd_1739 wd_68 wd_1737 wd_1738 (by decide +kernel) (by omega) (by decide) rfl ([]) rfl (Nat.le_of_ble_eq_true rfl) (by decide) dX12_prefixMany_16 (fun _ _ _ q => q.elim) (fun v9 A9 h9 hR9 => ?_)
    obtain ⟨rfl, hA9, rfl⟩ := hR9
    obtain rfl := hA9.symm
    refine v_st (k2 := 0) (n2 := 0) (st2 := [.int ((V_X12_half g (y)))]) rfl rfl rfl ?_
    have b_2 := ok_half (g := g) (x := y) (by (try simp only [Int32.le_iff_toInt_le, Int32.lt_iff_toInt_lt, ← Int32.toInt_inj, Int32.reduceToInt] at c_1 x1 xy yN h1 ⊢); omega) (by (try simp only [Int32.le_iff_toInt_le, Int32.lt_iff_toInt_lt, ← Int32.toInt_inj, Int32.reduceToInt] at c_1 x1 xy yN h1 ⊢); omega)
    refine v_istore_n (lv2 := [(3, .int ((V_X12_half g (y)))), (0, .int (x)), (1, .int (y)), (2, .int (zz))]) (pc := 19) C dX12_prefixMany_19 rfl (by decide) rfl ?_
    refine v_iconst (v := 1) (pc := 20) C dX12_prefixMany_20 rfl ?_
    refine v_iload_n (pc := 21) C dX12_prefixMany_21 1 rfl rfl ?_
    refine v_iload_n (pc := 22) C dX12_prefixMany_22 0 rfl rfl ?_
    refine v_icmp_gt (pc := 23) (tgt := 35) C dX12_prefixMany_23 (by decide) (fun c_3 => ?_) (fun c_3 => ?_)
    · skip
      refine v_iload_n (pc := 35) C dX12_prefixMany_35 1 rfl rfl ?_
      refine v_iload_n (pc := 36) C dX12_prefixMany_36 0 rfl rfl ?_
      refine v_isub (pc := 37) C dX12_prefixMany_37 ?_
      refine v_iload_n (pc := 38) C dX12_prefixMany_38 2 rfl rfl ?_
      refine v_iload_n (pc := 39) C dX12_prefixMany_39 0 rfl rfl ?_
      refine v_isub (pc := 40) C dX12_prefixMany_40 ?_
      refine v_iconst (v := 0) (pc := 41) C dX12_prefixMany_41 rfl ?_
      have b_4 : ((y - (V_X12_half g (y)))).toInt = (y).toInt - ((V_X12_half g (y))).toInt := i32_sub (by (try simp only [Int32.le_iff_toInt_le, Int32.lt_iff_toInt_lt, ← Int32.toInt_inj, Int32.reduceToInt] at c_1 c_3 b_2 x1 xy yN h1); omega) (by (try simp only [Int32.le_iff_toInt_le, Int32.lt_iff_toInt_lt, ← Int32.toInt_inj, Int32.reduceToInt] at c_1 c_3 b_2 x1 xy yN h1); omega)
      have b_5 : ((x - (V_X12_half g (y)))).toInt = (x).toInt - ((V_X12_half g (y))).toInt := i32_sub (by (try simp only [Int32.le_iff_toInt_le, Int32.lt_iff_toInt_lt, ← Int32.toInt_inj, Int32.reduceToInt] at c_1 c_3 b_2 b_4 x1 xy yN h1); omega) (by (try simp only [Int32.le_iff_toInt_le, Int32.lt_iff_toInt_lt, ← Int32.toInt_inj, Int32.reduceToInt] at c_1 c_3 b_2 b_4 x1 xy yN h1); omega)
      refine v_callS (pc := 42) C (ih ((x - (V_X12_half g (y)))) ((y - (V_X12_half g (y)))) (0) (by (try simp only [Int32.le_iff_toInt_le, Int32.lt_iff_toInt_lt, ← Int32.toInt_inj, Int32.reduceToInt] at c_1 c_3 b_2 b_4 b_5 x1 xy yN h1 ⊢); omega) (by (try simp only [Int32.le_iff_toInt_le, Int32.lt_iff_toInt_lt, ← Int32.toInt_inj, Int32.reduceToInt] at c_1 c_3 b_2 b_4 b_5 x1 xy yN h1 ⊢); omega) (by (try simp only [Int32.le_iff_toInt_le, Int32.lt_iff_toInt_lt, ← Int32.toInt_inj, Int32.reduceToInt] at c_1 c_3 b_2 b_4 b_5 x1 xy yN h1 ⊢); omega) (by (try simp only [Int32.le_iff_toInt_le, Int32.lt_iff_toInt_lt, ← Int32.toInt_inj, Int32.reduceToInt] at c_1 c_3 b_2 b_4 b_5 x1 xy yN h1 ⊢); omega)) 3 wd_1769 wd_68 wd_1767 wd_1768 (by decide +kernel) (by omega) (by decide) rfl ([.int (1)]) rfl (Nat.le_of_ble_eq_true rfl) (by decide) dX12_prefixMany_42 (fun _ _ _ q => q.elim) (fun v9 A9 h9 hR9 => ?_)
      obtain ⟨rfl, hA9, rfl⟩ := hR9
      obtain rfl := hA9.symm
      refine v_st (k2 := 0) (n2 := 0) (st2 := [.int ((VR_X12_prefixMany g n ((x - (V_X12_half g (y)))) ((y - (V_X12_half g (y)))) (0))), .int (1)]) rfl rfl rfl ?_
      refine v_iadd (pc := 45) C dX12_prefixMany_45 ?_
      exact v_iret (pc := 46) C (by decide) (by decide) dX12_prefixMany_46 ⟨(congrArg (fun q => some (Value.int q)) (by show _ = _; rw [VR_X12_prefixMany, if_neg c_1, if_pos c_3])), rfl, rfl⟩
    · skip
      refine v_iload_n (pc := 26) C dX12_prefixMany_26 1 rfl rfl ?_
      refine v_iload_n (pc := 27) C dX12_prefixMany_27 0 rfl rfl ?_
      refine v_iload_n (pc := 28) C dX12_prefixMany_28 3 rfl rfl ?_
      refine v_callS (pc := 29) C (ih (x) ((V_X12_half g (y))) (zz) (by (try simp only [Int32.le_iff_toInt_le, Int32.lt_iff_toInt_lt, ← Int32.toInt_inj, Int32.reduceToInt] at c_1 c_3 b_2 x1 xy yN h1 ⊢); omega) (by (try simp only [Int32.le_iff_toInt_le, Int32.lt_iff_toInt_lt, ← Int32.toInt_inj, Int32.reduceToInt] at c_1 c_3 b_2 x1 xy yN h1 ⊢); omega) (by (try simp only [Int32.le_iff_toInt_le, Int32.lt_iff_toInt_lt, ← Int32.toInt_inj, Int32.reduceToInt] at c_1 c_3 b_2 x1 xy yN h1 ⊢); omega) (by (try simp only [Int32.le_iff_toInt_le, Int32.lt_iff_toInt_lt, ← Int32.toInt_inj, Int32.reduceToInt] at c_1 c_3 b_2 x1 xy yN h1 ⊢); omega)) 3 wd_1769 wd_68 wd_1767 wd_1768 (by decide +kernel) (by omega) (by decide) rfl ([.int (1)]) rfl (Nat.le_of_ble_eq_true rfl) (by decide) dX12_prefixMany_29 (fun _ _ _ q => q.elim) (fun v9 A9 h9 hR9 => ?_)
      obtain ⟨rfl, hA9, rfl⟩ := hR9
      obtain rfl := hA9.symm
      refine v_st (k2 := 0) (n2 := 0) (st2 := [.int ((VR_X12_prefixMany g n (x) ((V_X12_half g (y))) (zz))), .int (1)]) rfl rfl rfl ?_
      refine v_goto (tgt := 45) (pc := 32) C dX12_prefixMany_32 (by decide) ?_
      refine v_iadd (pc := 45) C dX12_prefixMany_45 ?_
      exact v_iret (pc := 46) C (by decide) (by decide) dX12_prefixMany_46 ⟨(congrArg (fun q => some (Value.int q)) (by show _ = _; rw [VR_X12_prefixMany, if_neg c_1, if_neg c_3])), rfl, rfl⟩
  · skip
    refine v_iload_n (pc := 5) C dX12_prefixMany_5 2 rfl rfl ?_
    refine v_if_eq (pc := 6) (tgt := 13) C dX12_prefixMany_6 (by decide) (fun c_6 => ?_) (fun c_6 => ?_)
    · skip
      refine v_iconst (v := 1) (pc := 13) C dX12_prefixMany_13 rfl ?_
      exact v_iret (pc := 14) C (by decide) (by decide) dX12_prefixMany_14 ⟨(congrArg (fun q => some (Value.int q)) (by show _ = _; rw [VR_X12_prefixMany, if_pos c_1, if_pos c_6])), rfl, rfl⟩
    · skip
      refine v_iconst (v := 0) (pc := 9) C dX12_prefixMany_9 rfl ?_
      refine v_goto (tgt := 14) (pc := 10) C dX12_prefixMany_10 (by decide) ?_
      exact v_iret (pc := 14) C (by decide) (by decide) dX12_prefixMany_14 ⟨(congrArg (fun q => some (Value.int q)) (by show _ = _; rw [VR_X12_prefixMany, if_pos c_1, if_neg c_6])), rfl, rfl⟩
set_option maxHeartbeats 4000000 in
set_option maxRecDepth 100000 in
theorem c_X12_prefixMany_z {G : vG} (hG : G.1.stackTraces = false) {A : vN → Nat} {g : vS} {r : vH} (x : Int32) (y : Int32) (zz : Int32) (h1 : y.toInt ≤ ((0 : Nat) : Int)) (x1 : 1 ≤ x.toInt) (xy : x.toInt ≤ y.toInt) (yN : y.toInt ≤ 300) : vCt G yX12_prefixMany cX12_prefixMany 4 (some .int) (1 + 0) [.int (x), .int (y), .int (zz)] A (wm g r) (fun v A2 h2 => v = some (.int (VR_X12_prefixMany g 0 x y zz)) ∧ A2 = A ∧ h2 = wm g r) (vNoX) 0 0 := by
  refine v_of hG (by decide +kernel) (Nat.le_of_ble_eq_true rfl) (lv := [(0, .int (x)), (1, .int (y)), (2, .int (zz))]) rfl (fun X C hnx => ?_)
  have C : vC G X cX12_prefixMany 4 RX12 (some .int) "prefixMany" (1 + 0) 0 0 := C
  refine v_iload_n (pc := 0) C dX12_prefixMany_0 0 rfl rfl ?_
  refine v_iload_n (pc := 1) C dX12_prefixMany_1 1 rfl rfl ?_
  refine v_icmp_ne (pc := 2) (tgt := 15) C dX12_prefixMany_2 (by decide) (fun c_1 => ?_) (fun c_1 => ?_)
  · skip
    exact absurd c_1 (by exfalso; omega)
  · skip
    refine v_iload_n (pc := 5) C dX12_prefixMany_5 2 rfl rfl ?_
    refine v_if_eq (pc := 6) (tgt := 13) C dX12_prefixMany_6 (by decide) (fun c_2 => ?_) (fun c_2 => ?_)
    · skip
      exact absurd c_2 (by exfalso; omega)
    · skip
      refine v_iconst (v := 0) (pc := 9) C dX12_prefixMany_9 rfl ?_
      refine v_goto (tgt := 14) (pc := 10) C dX12_prefixMany_10 (by decide) ?_
      exact v_iret (pc := 14) C (by decide) (by decide) dX12_prefixMany_14 ⟨(congrArg (fun q => some (Value.int q)) (by show _ = _; rw [VR_X12_prefixMany])), rfl, rfl⟩
theorem c_X12_prefixMany_n {G : vG} (hG : G.1.stackTraces = false) {A : vN → Nat} {g : vS} {r : vH} : ∀ (n : Nat) (x : Int32) (y : Int32) (zz : Int32), y.toInt ≤ ((n : Nat) : Int) → 1 ≤ x.toInt → x.toInt ≤ y.toInt → y.toInt ≤ 300 → vCt G yX12_prefixMany cX12_prefixMany 4 (some .int) (1 + n) [.int (x), .int (y), .int (zz)] A (wm g r) (fun v A2 h2 => v = some (.int (VR_X12_prefixMany g n x y zz)) ∧ A2 = A ∧ h2 = wm g r) vNoX 0 0 := by
  intro n
  induction n with
  | zero => intro x y zz h1 x1 xy yN; exact c_X12_prefixMany_z hG x y zz h1 x1 xy yN
  | succ n ih => intro x y zz h1 x1 xy yN; exact c_X12_prefixMany_s hG n ih x y zz h1 x1 xy yN
def V_X12_prefixMany (g : vS) (x : Int32) (y : Int32) (zz : Int32) : Int32 := VR_X12_prefixMany g 300 x y zz
theorem c_X12_prefixMany {G : vG} (hG : G.1.stackTraces = false) {A : vN → Nat} {g : vS} {r : vH} (x : Int32) (y : Int32) (zz : Int32) (h1 : y.toInt ≤ ((300 : Nat) : Int)) (x1 : 1 ≤ x.toInt) (xy : x.toInt ≤ y.toInt) (yN : y.toInt ≤ 300) : vCt G yX12_prefixMany cX12_prefixMany 4 (some .int) 301 [.int (x), .int (y), .int (zz)] A (wm g r) (fun v A2 h2 => v = some (.int (V_X12_prefixMany g x y zz)) ∧ A2 = A ∧ h2 = wm g r) vNoX 0 0 := c_X12_prefixMany_n hG 300 x y zz h1 x1 xy yN
def V_X12_root (g : vS) (x : Int32) : Int32 := (if (V_X12_isBetween g (x) (0) ((g 11 0 0))) = 0 then 0 else (V_X12_rootOf (S_X12_isWrong g (0)) (0) (x)))
def S_X12_root (g : vS) (x : Int32) : vS := (if (V_X12_isBetween g (x) (0) ((g 11 0 0))) = 0 then (S_X12_isWrong g (1)) else (S_X12_isWrong g (0)))
theorem F_X12_root {g : vS} {x : Int32} {c i j : Nat} (h1 : c ≠ 1) : S_X12_root g x c i j = g c i j := by
  unfold S_X12_root
  (repeat' split) <;> first | rfl | ((simp only [s3_k h1, F_X12_isWrong h1]) <;> first | done | rfl)
set_option maxHeartbeats 4000000 in
set_option maxRecDepth 100000 in
theorem c_X12_root {G : vG} (hG : G.1.stackTraces = false) {A : vN → Nat} {g : vS} {r : vH} (x : Int32) (hu0 : 0 ≤ (g 2 0 0).toInt) (hu : (g 2 0 0).toInt ≤ 6) (hg0 : 0 ≤ (g 3 0 0).toInt) (hg : (g 3 0 0).toInt ≤ 5) (hf0 : 0 ≤ (g 4 0 0).toInt) (hf : (g 4 0 0).toInt ≤ 20) (hl0 : 0 ≤ (g 11 0 0).toInt) (hl : (g 11 0 0).toInt ≤ 300) : vCt G yX12_root cX12_root 2 (some .int) 303 [.ref (A (40, 0)), .int (x)] A (wm g r) (fun v A2 h2 => v = some (.int (V_X12_root g x)) ∧ A2 = A ∧ h2 = wm (S_X12_root g x) r) (vNoX) 0 0 := by
  refine v_of hG (by decide +kernel) (Nat.le_of_ble_eq_true rfl) (lv := [(0, .ref (A (40, 0))), (1, .int (x))]) rfl (fun X C hnx => ?_)
  have C : vC G X cX12_root 2 RX12 (some .int) "root" 303 0 0 := C
  refine v_aload_n (pc := 0) C dX12_root_0 0 rfl rfl ?_
  refine v_iload_n (pc := 1) C dX12_root_1 1 rfl rfl ?_
  refine v_iconst (v := 0) (pc := 2) C dX12_root_2 rfl ?_
  refine v_aload_n (pc := 3) C dX12_root_3 0 rfl rfl ?_
  refine v_get (pc := 4) C (40, 0) (v := .int ((g 11 0 0))) ck_40 rfl 36 (by decide) inX12 wd_1424 rfl rfl dX12_root_4 ?_
  refine v_callS (pc := 7) C (c_X12_isBetween hG (x) (0) ((g 11 0 0)) ) 3 wd_1527 wd_68 wd_1525 wd_1526 (by decide +kernel) (by decide) (by decide) rfl ([.ref (A (40, 0))]) rfl (Nat.le_of_ble_eq_true rfl) (by decide) dX12_root_7 (fun _ _ _ q => q.elim) (fun v9 A9 h9 hR9 => ?_)
  obtain ⟨rfl, hA9, rfl⟩ := hR9
  obtain rfl := hA9.symm
  refine v_st (k2 := 0) (n2 := 0) (st2 := [.int ((V_X12_isBetween g (x) (0) ((g 11 0 0)))), .ref (A (40, 0))]) rfl rfl rfl ?_
  have b_1 := ok_btw (g := g) (x := x) (a := 0) (b := (g 11 0 0))
  refine v_if_eq (pc := 10) (tgt := 17) C dX12_root_10 (by decide) (fun c_2 => ?_) (fun c_2 => ?_)
  · skip
    refine v_iconst (v := 1) (pc := 17) C dX12_root_17 rfl ?_
    refine v_callV (pc := 18) C (40, 0) ck_40 rfl (c_X12_isWrong hG (1) ) 1 wd_1531 wd_68 wd_1528 wd_1530 wd_35 (by decide +kernel) (by decide) (by decide) rfl ([]) rfl (Nat.le_of_ble_eq_true rfl) (by decide) dX12_root_18 (fun _ _ _ q => q.elim) (fun v9 A9 h9 hR9 => ?_)
    obtain ⟨rfl, hA9, rfl⟩ := hR9
    obtain rfl := hA9.symm
    refine v_st (k2 := 0) (n2 := 0) (st2 := [.int ((V_X12_isWrong g (1)))]) rfl rfl rfl ?_
    refine v_if_eq (pc := 21) (tgt := 28) C dX12_root_21 (by decide) (fun c_3 => ?_) (fun c_3 => ?_)
    · skip
      exact absurd c_3 (fun q9 => ((show ¬ (1 : Int32) = 0 from by decide)) q9)
    · skip
      refine v_iconst (v := 0) (pc := 24) C dX12_root_24 rfl ?_
      refine v_goto (tgt := 34) (pc := 25) C dX12_root_25 (by decide) ?_
      exact v_iret (pc := 34) C (by decide) (by decide) dX12_root_34 ⟨(congrArg (fun q => some (Value.int q)) (by show _ = _; rw [V_X12_root, if_pos c_2])), rfl, (congrArg (fun q => wm q r) (by show _ = _; rw [S_X12_root, if_pos c_2]))⟩
  · skip
    refine v_iconst (v := 0) (pc := 13) C dX12_root_13 rfl ?_
    refine v_goto (tgt := 18) (pc := 14) C dX12_root_14 (by decide) ?_
    refine v_callV (pc := 18) C (40, 0) ck_40 rfl (c_X12_isWrong hG (0) ) 1 wd_1531 wd_68 wd_1528 wd_1530 wd_35 (by decide +kernel) (by decide) (by decide) rfl ([]) rfl (Nat.le_of_ble_eq_true rfl) (by decide) dX12_root_18 (fun _ _ _ q => q.elim) (fun v9 A9 h9 hR9 => ?_)
    obtain ⟨rfl, hA9, rfl⟩ := hR9
    obtain rfl := hA9.symm
    refine v_st (k2 := 0) (n2 := 0) (st2 := [.int ((V_X12_isWrong g (0)))]) rfl rfl rfl ?_
    refine v_if_eq (pc := 21) (tgt := 28) C dX12_root_21 (by decide) (fun c_4 => ?_) (fun c_4 => ?_)
    · skip
      refine v_aload_n (pc := 28) C dX12_root_28 0 rfl rfl ?_
      refine v_iconst (v := 0) (pc := 29) C dX12_root_29 rfl ?_
      refine v_iload_n (pc := 30) C dX12_root_30 1 rfl rfl ?_
      refine v_callV (pc := 31) C (40, 0) ck_40 rfl (c_X12_rootOf hG (0) (x) (by (try simp only [Int32.le_iff_toInt_le, Int32.lt_iff_toInt_lt, ← Int32.toInt_inj, Int32.reduceToInt] at c_2 c_4 b_1 hu hg hf hl0 hl ⊢); omega) (by (try simp only [Int32.le_iff_toInt_le, Int32.lt_iff_toInt_lt, ← Int32.toInt_inj, Int32.reduceToInt] at c_2 c_4 b_1 hu hg hf hl0 hl ⊢); omega) (by (try simp only [Int32.le_iff_toInt_le, Int32.lt_iff_toInt_lt, ← Int32.toInt_inj, Int32.reduceToInt] at c_2 c_4 b_1 hu hg hf hl0 hl ⊢); omega) (by (try simp only [Int32.le_iff_toInt_le, Int32.lt_iff_toInt_lt, ← Int32.toInt_inj, Int32.reduceToInt] at c_2 c_4 b_1 hu hg hf hl0 hl ⊢); omega)) 2 wd_1736 wd_68 wd_1733 wd_1735 wd_54 (by decide +kernel) (by decide) (by decide) rfl ([]) rfl (Nat.le_of_ble_eq_true rfl) (by decide) dX12_root_31 (fun _ _ _ q => q.elim) (fun v9 A9 h9 hR9 => ?_)
      obtain ⟨rfl, hA9, rfl⟩ := hR9
      obtain rfl := hA9.symm
      refine v_st (k2 := 0) (n2 := 0) (st2 := [.int ((V_X12_rootOf (S_X12_isWrong g (0)) (0) (x)))]) rfl rfl rfl ?_
      exact v_iret (pc := 34) C (by decide) (by decide) dX12_root_34 ⟨(congrArg (fun q => some (Value.int q)) (by show _ = _; rw [V_X12_root, if_neg c_2])), rfl, (congrArg (fun q => wm q r) (by show _ = _; rw [S_X12_root, if_neg c_2]))⟩
    · skip
      exact absurd c_4 (fun q9 => q9 ((show (0 : Int32) = 0 from rfl)))
theorem ok_isNoLeaf {g : vS} {x y : Int32} : ¬ (V_X12_isNoLeaf g x y).toInt = 0 ∨ (0 ≤ x.toInt ∧ x.toInt ≤ (g 11 0 0).toInt ∧ 0 ≤ y.toInt ∧ y.toInt < x.toInt) := by
  have b1 := ok_btw (g := g) (x := x) (a := 0) (b := g 11 0 0)
  have b2 := ok_btw (g := g) (x := y) (a := 0) (b := x - 1)
  simp only [Int32.reduceToInt] at b1 b2
  unfold V_X12_isNoLeaf
  (repeat' split) <;> first
    | exact Or.inl (show ¬ (1 : Int32).toInt = 0 by decide)
    | (right; rename_i a b; rw [← Int32.toInt_inj] at a b; simp only [Int32.reduceToInt] at a b
       have e := i32_sub1 (x := x) (by omega)
       omega)
theorem ok_isNoPrefix {g : vS} {x y : Int32} : ¬ (V_X12_isNoPrefix g x y).toInt = 0 ∨ (0 ≤ y.toInt ∧ y.toInt ≤ (g 11 0 0).toInt ∧ 1 ≤ x.toInt ∧ x.toInt ≤ y.toInt) := by
  have b1 := ok_btw (g := g) (x := y) (a := 0) (b := g 11 0 0)
  have b2 := ok_btw (g := g) (x := x) (a := 1) (b := y)
  simp only [Int32.reduceToInt] at b1 b2
  unfold V_X12_isNoPrefix
  (repeat' split) <;> first
    | exact Or.inl (show ¬ (1 : Int32).toInt = 0 by decide)
    | (right; rename_i a b; rw [← Int32.toInt_inj] at a b; simp only [Int32.reduceToInt] at a b; omega)
def V_X12_proofLength (g : vS) (x : Int32) (y : Int32) : Int32 := (if (V_X12_isNoLeaf g (x) (y)) = 0 then (V_X12_depth (S_X12_isNoLeaf g (x) (y)) (x) (y)) else 0)
def S_X12_proofLength (g : vS) (x : Int32) (y : Int32) : vS := (S_X12_isNoLeaf g (x) (y))
theorem F_X12_proofLength {g : vS} {x : Int32} {y : Int32} {c i j : Nat} (h1 : c ≠ 1) : S_X12_proofLength g x y c i j = g c i j := by
  unfold S_X12_proofLength
  (repeat' split) <;> first | rfl | ((simp only [s3_k h1, F_X12_isNoLeaf h1]) <;> first | done | rfl)
set_option maxHeartbeats 4000000 in
set_option maxRecDepth 100000 in
theorem c_X12_proofLength {G : vG} (hG : G.1.stackTraces = false) {A : vN → Nat} {g : vS} {r : vH} (x : Int32) (y : Int32) (hu0 : 0 ≤ (g 2 0 0).toInt) (hu : (g 2 0 0).toInt ≤ 6) (hg0 : 0 ≤ (g 3 0 0).toInt) (hg : (g 3 0 0).toInt ≤ 5) (hf0 : 0 ≤ (g 4 0 0).toInt) (hf : (g 4 0 0).toInt ≤ 20) (hl0 : 0 ≤ (g 11 0 0).toInt) (hl : (g 11 0 0).toInt ≤ 300) : vCt G yX12_proofLength cX12_proofLength 3 (some .int) 302 [.ref (A (40, 0)), .int (x), .int (y)] A (wm g r) (fun v A2 h2 => v = some (.int (V_X12_proofLength g x y)) ∧ A2 = A ∧ h2 = wm (S_X12_proofLength g x y) r) (vNoX) 0 0 := by
  refine v_of hG (by decide +kernel) (Nat.le_of_ble_eq_true rfl) (lv := [(0, .ref (A (40, 0))), (1, .int (x)), (2, .int (y))]) rfl (fun X C hnx => ?_)
  have C : vC G X cX12_proofLength 3 RX12 (some .int) "proofLength" 302 0 0 := C
  refine v_aload_n (pc := 0) C dX12_proofLength_0 0 rfl rfl ?_
  refine v_iload_n (pc := 1) C dX12_proofLength_1 1 rfl rfl ?_
  refine v_iload_n (pc := 2) C dX12_proofLength_2 2 rfl rfl ?_
  refine v_callV (pc := 3) C (40, 0) ck_40 rfl (c_X12_isNoLeaf hG (x) (y) hu0 hu hg0 hg hf0 hf hl0 hl) 2 wd_1747 wd_68 wd_1744 wd_1746 wd_55 (by decide +kernel) (by decide) (by decide) rfl ([]) rfl (Nat.le_of_ble_eq_true rfl) (by decide) dX12_proofLength_3 (fun _ _ _ q => q.elim) (fun v9 A9 h9 hR9 => ?_)
  obtain ⟨rfl, hA9, rfl⟩ := hR9
  obtain rfl := hA9.symm
  refine v_st (k2 := 0) (n2 := 0) (st2 := [.int ((V_X12_isNoLeaf g (x) (y)))]) rfl rfl rfl ?_
  have b_1 := ok_isNoLeaf (g := g) (x := x) (y := y)
  refine v_if_eq (pc := 6) (tgt := 13) C dX12_proofLength_6 (by decide) (fun c_2 => ?_) (fun c_2 => ?_)
  · skip
    refine v_iload_n (pc := 13) C dX12_proofLength_13 1 rfl rfl ?_
    refine v_iload_n (pc := 14) C dX12_proofLength_14 2 rfl rfl ?_
    refine v_callS (pc := 15) C (c_X12_depth hG (x) (y) (by (try simp only [Int32.le_iff_toInt_le, Int32.lt_iff_toInt_lt, ← Int32.toInt_inj, Int32.reduceToInt] at c_2 b_1 hu hg hf hl0 hl ⊢); omega) (by (try simp only [Int32.le_iff_toInt_le, Int32.lt_iff_toInt_lt, ← Int32.toInt_inj, Int32.reduceToInt] at c_2 b_1 hu hg hf hl0 hl ⊢); omega) (by (try simp only [Int32.le_iff_toInt_le, Int32.lt_iff_toInt_lt, ← Int32.toInt_inj, Int32.reduceToInt] at c_2 b_1 hu hg hf hl0 hl ⊢); omega)) 2 wd_1750 wd_68 wd_1748 wd_1749 (by decide +kernel) (by decide) (by decide) rfl ([]) rfl (Nat.le_of_ble_eq_true rfl) (by decide) dX12_proofLength_15 (fun _ _ _ q => q.elim) (fun v9 A9 h9 hR9 => ?_)
    obtain ⟨rfl, hA9, rfl⟩ := hR9
    obtain rfl := hA9.symm
    refine v_st (k2 := 0) (n2 := 0) (st2 := [.int ((V_X12_depth (S_X12_isNoLeaf g (x) (y)) (x) (y)))]) rfl rfl rfl ?_
    exact v_iret (pc := 18) C (by decide) (by decide) dX12_proofLength_18 ⟨(congrArg (fun q => some (Value.int q)) (by show _ = _; rw [V_X12_proofLength, if_pos c_2])), rfl, (congrArg (fun q => wm q r) (by show _ = _; rw [S_X12_proofLength]))⟩
  · skip
    refine v_iconst (v := 0) (pc := 9) C dX12_proofLength_9 rfl ?_
    refine v_goto (tgt := 18) (pc := 10) C dX12_proofLength_10 (by decide) ?_
    exact v_iret (pc := 18) C (by decide) (by decide) dX12_proofLength_18 ⟨(congrArg (fun q => some (Value.int q)) (by show _ = _; rw [V_X12_proofLength, if_neg c_2])), rfl, (congrArg (fun q => wm q r) (by show _ = _; rw [S_X12_proofLength]))⟩
def V_X12_prefixLength (g : vS) (x : Int32) (y : Int32) : Int32 := (if (V_X12_isNoPrefix g (x) (y)) = 0 then (V_X12_prefixMany (S_X12_isNoPrefix g (x) (y)) (x) (y) (1)) else 0)
def S_X12_prefixLength (g : vS) (x : Int32) (y : Int32) : vS := (S_X12_isNoPrefix g (x) (y))
theorem F_X12_prefixLength {g : vS} {x : Int32} {y : Int32} {c i j : Nat} (h1 : c ≠ 1) : S_X12_prefixLength g x y c i j = g c i j := by
  unfold S_X12_prefixLength
  (repeat' split) <;> first | rfl | ((simp only [s3_k h1, F_X12_isNoPrefix h1]) <;> first | done | rfl)
set_option maxHeartbeats 4000000 in
set_option maxRecDepth 100000 in
theorem c_X12_prefixLength {G : vG} (hG : G.1.stackTraces = false) {A : vN → Nat} {g : vS} {r : vH} (x : Int32) (y : Int32) (hu0 : 0 ≤ (g 2 0 0).toInt) (hu : (g 2 0 0).toInt ≤ 6) (hg0 : 0 ≤ (g 3 0 0).toInt) (hg : (g 3 0 0).toInt ≤ 5) (hf0 : 0 ≤ (g 4 0 0).toInt) (hf : (g 4 0 0).toInt ≤ 20) (hl0 : 0 ≤ (g 11 0 0).toInt) (hl : (g 11 0 0).toInt ≤ 300) : vCt G yX12_prefixLength cX12_prefixLength 3 (some .int) 302 [.ref (A (40, 0)), .int (x), .int (y)] A (wm g r) (fun v A2 h2 => v = some (.int (V_X12_prefixLength g x y)) ∧ A2 = A ∧ h2 = wm (S_X12_prefixLength g x y) r) (vNoX) 0 0 := by
  refine v_of hG (by decide +kernel) (Nat.le_of_ble_eq_true rfl) (lv := [(0, .ref (A (40, 0))), (1, .int (x)), (2, .int (y))]) rfl (fun X C hnx => ?_)
  have C : vC G X cX12_prefixLength 3 RX12 (some .int) "prefixLength" 302 0 0 := C
  refine v_aload_n (pc := 0) C dX12_prefixLength_0 0 rfl rfl ?_
  refine v_iload_n (pc := 1) C dX12_prefixLength_1 1 rfl rfl ?_
  refine v_iload_n (pc := 2) C dX12_prefixLength_2 2 rfl rfl ?_
  refine v_callV (pc := 3) C (40, 0) ck_40 rfl (c_X12_isNoPrefix hG (x) (y) hu0 hu hg0 hg hf0 hf hl0 hl) 2 wd_1766 wd_68 wd_1763 wd_1765 wd_57 (by decide +kernel) (by decide) (by decide) rfl ([]) rfl (Nat.le_of_ble_eq_true rfl) (by decide) dX12_prefixLength_3 (fun _ _ _ q => q.elim) (fun v9 A9 h9 hR9 => ?_)
  obtain ⟨rfl, hA9, rfl⟩ := hR9
  obtain rfl := hA9.symm
  refine v_st (k2 := 0) (n2 := 0) (st2 := [.int ((V_X12_isNoPrefix g (x) (y)))]) rfl rfl rfl ?_
  have b_1 := ok_isNoPrefix (g := g) (x := x) (y := y)
  refine v_if_eq (pc := 6) (tgt := 13) C dX12_prefixLength_6 (by decide) (fun c_2 => ?_) (fun c_2 => ?_)
  · skip
    refine v_iload_n (pc := 13) C dX12_prefixLength_13 1 rfl rfl ?_
    refine v_iload_n (pc := 14) C dX12_prefixLength_14 2 rfl rfl ?_
    refine v_iconst (v := 1) (pc := 15) C dX12_prefixLength_15 rfl ?_
    refine v_callS (pc := 16) C (c_X12_prefixMany hG (x) (y) (1) (by (try simp only [Int32.le_iff_toInt_le, Int32.lt_iff_toInt_lt, ← Int32.toInt_inj, Int32.reduceToInt] at c_2 b_1 hu hg hf hl0 hl ⊢); omega) (by (try simp only [Int32.le_iff_toInt_le, Int32.lt_iff_toInt_lt, ← Int32.toInt_inj, Int32.reduceToInt] at c_2 b_1 hu hg hf hl0 hl ⊢); omega) (by (try simp only [Int32.le_iff_toInt_le, Int32.lt_iff_toInt_lt, ← Int32.toInt_inj, Int32.reduceToInt] at c_2 b_1 hu hg hf hl0 hl ⊢); omega) (by (try simp only [Int32.le_iff_toInt_le, Int32.lt_iff_toInt_lt, ← Int32.toInt_inj, Int32.reduceToInt] at c_2 b_1 hu hg hf hl0 hl ⊢); omega)) 3 wd_1769 wd_68 wd_1767 wd_1768 (by decide +kernel) (by decide) (by decide) rfl ([]) rfl (Nat.le_of_ble_eq_true rfl) (by decide) dX12_prefixLength_16 (fun _ _ _ q => q.elim) (fun v9 A9 h9 hR9 => ?_)
    obtain ⟨rfl, hA9, rfl⟩ := hR9
    obtain rfl := hA9.symm
    refine v_st (k2 := 0) (n2 := 0) (st2 := [.int ((V_X12_prefixMany (S_X12_isNoPrefix g (x) (y)) (x) (y) (1)))]) rfl rfl rfl ?_
    exact v_iret (pc := 19) C (by decide) (by decide) dX12_prefixLength_19 ⟨(congrArg (fun q => some (Value.int q)) (by show _ = _; rw [V_X12_prefixLength, if_pos c_2])), rfl, (congrArg (fun q => wm q r) (by show _ = _; rw [S_X12_prefixLength]))⟩
  · skip
    refine v_iconst (v := 0) (pc := 9) C dX12_prefixLength_9 rfl ?_
    refine v_goto (tgt := 19) (pc := 10) C dX12_prefixLength_10 (by decide) ?_
    exact v_iret (pc := 19) C (by decide) (by decide) dX12_prefixLength_19 ⟨(congrArg (fun q => some (Value.int q)) (by show _ = _; rw [V_X12_prefixLength, if_neg c_2])), rfl, (congrArg (fun q => wm q r) (by show _ = _; rw [S_X12_prefixLength]))⟩
/-- what a user knows of the log is no negative number of leaves -/
def vM4 (g : vS) : Prop := ∀ u : Nat, 0 ≤ (g 42 u 0).toInt
theorem vM4_k {g G : vS} (h : ∀ i j, G 42 i j = g 42 i j) (q : vM4 g) : vM4 G := fun u => by rw [h]; exact q u
def V_X12_isShown (g : vS) (u : Int32) : Int32 := (if (g 11 0 0) < (g 42 (u).toNatClampNeg 0) then 0 else (if (V_X12_rootOf g (0) ((g 42 (u).toNatClampNeg 0))) = (g 43 (u).toNatClampNeg 0) then 1 else 0))
theorem B_X12_isShown {g : vS} {u : Int32} : V_X12_isShown g u = 0 ∨ V_X12_isShown g u = 1 := by
  unfold V_X12_isShown
  (repeat' split) <;> first | exact Or.inl rfl | exact Or.inr rfl
set_option maxHeartbeats 4000000 in
set_option maxRecDepth 100000 in
theorem c_X12_isShown {G : vG} (hG : G.1.stackTraces = false) {A : vN → Nat} {g : vS} {r : vH} (u : Int32) (hu0 : 0 ≤ (g 2 0 0).toInt) (hu : (g 2 0 0).toInt ≤ 6) (hg0 : 0 ≤ (g 3 0 0).toInt) (hg : (g 3 0 0).toInt ≤ 5) (hf0 : 0 ≤ (g 4 0 0).toInt) (hf : (g 4 0 0).toInt ≤ 20) (u_0 : 0 ≤ (u).toInt) (u_N : (u).toInt < 6) (hl0 : 0 ≤ (g 11 0 0).toInt) (hl : (g 11 0 0).toInt ≤ 300) (h4 : vM4 g) : vCt G yX12_isShown cX12_isShown 2 (some .boolean) 303 [.ref (A (40, 0)), .int (u)] A (wm g r) (fun v A2 h2 => v = some (.int (V_X12_isShown g u)) ∧ A2 = A ∧ h2 = wm g r) (vNoX) 0 0 := by
  refine v_of hG (by decide +kernel) (Nat.le_of_ble_eq_true rfl) (lv := [(0, .ref (A (40, 0))), (1, .int (u))]) rfl (fun X C hnx => ?_)
  have C : vC G X cX12_isShown 2 RX12 (some .boolean) "isShown" 303 0 0 := C
  refine v_aload_n (pc := 0) C dX12_isShown_0 0 rfl rfl ?_
  refine v_get (pc := 1) C (40, 0) (v := .ref (A (42, 0))) ck_40 rfl 2 (by decide) inX12 wd_1390 rfl rfl dX12_isShown_1 ?_
  refine v_iload_n (pc := 4) C dX12_isShown_4 1 rfl rfl ?_
  refine v_iald (pc := 5) C (42, 0) (v := (g 42 (u).toNatClampNeg 0)) ck_42 (by (try simp only [Int32.le_iff_toInt_le, Int32.lt_iff_toInt_lt, ← Int32.toInt_inj, vp_in_iff, Int32.reduceToInt] at hu hg hf u_0 u_N hl0 hl ⊢) <;> omega) rfl dX12_isShown_5 ?_
  have b_1 := h4 (u).toNatClampNeg
  refine v_aload_n (pc := 6) C dX12_isShown_6 0 rfl rfl ?_
  refine v_get (pc := 7) C (40, 0) (v := .int ((g 11 0 0))) ck_40 rfl 36 (by decide) inX12 wd_1424 rfl rfl dX12_isShown_7 ?_
  refine v_icmp_gt (pc := 10) (tgt := 37) C dX12_isShown_10 (by decide) (fun c_2 => ?_) (fun c_2 => ?_)
  · skip
    refine v_iconst (v := 0) (pc := 37) C dX12_isShown_37 rfl ?_
    exact v_zret (pc := 38) C rfl (by decide) (by decide) dX12_isShown_38 ⟨(congrArg (fun q => some (Value.int q)) (by show _ = _; rw [V_X12_isShown, if_pos c_2])), rfl, rfl⟩
  · skip
    refine v_aload_n (pc := 13) C dX12_isShown_13 0 rfl rfl ?_
    refine v_iconst (v := 0) (pc := 14) C dX12_isShown_14 rfl ?_
    refine v_aload_n (pc := 15) C dX12_isShown_15 0 rfl rfl ?_
    refine v_get (pc := 16) C (40, 0) (v := .ref (A (42, 0))) ck_40 rfl 2 (by decide) inX12 wd_1390 rfl rfl dX12_isShown_16 ?_
    refine v_iload_n (pc := 19) C dX12_isShown_19 1 rfl rfl ?_
    refine v_iald (pc := 20) C (42, 0) (v := (g 42 (u).toNatClampNeg 0)) ck_42 (by (try simp only [Int32.le_iff_toInt_le, Int32.lt_iff_toInt_lt, ← Int32.toInt_inj, vp_in_iff, Int32.reduceToInt] at c_2 b_1 hu hg hf u_0 u_N hl0 hl ⊢) <;> omega) rfl dX12_isShown_20 ?_
    have b_3 := h4 (u).toNatClampNeg
    refine v_callV (pc := 21) C (40, 0) ck_40 rfl (c_X12_rootOf hG (0) ((g 42 (u).toNatClampNeg 0)) (by (try simp only [Int32.le_iff_toInt_le, Int32.lt_iff_toInt_lt, ← Int32.toInt_inj, Int32.reduceToInt] at c_2 b_1 b_3 hu hg hf u_0 u_N hl0 hl ⊢); omega) (by (try simp only [Int32.le_iff_toInt_le, Int32.lt_iff_toInt_lt, ← Int32.toInt_inj, Int32.reduceToInt] at c_2 b_1 b_3 hu hg hf u_0 u_N hl0 hl ⊢); omega) (by (try simp only [Int32.le_iff_toInt_le, Int32.lt_iff_toInt_lt, ← Int32.toInt_inj, Int32.reduceToInt] at c_2 b_1 b_3 hu hg hf u_0 u_N hl0 hl ⊢); omega) (by (try simp only [Int32.le_iff_toInt_le, Int32.lt_iff_toInt_lt, ← Int32.toInt_inj, Int32.reduceToInt] at c_2 b_1 b_3 hu hg hf u_0 u_N hl0 hl ⊢); omega)) 2 wd_1736 wd_68 wd_1733 wd_1735 wd_54 (by decide +kernel) (by decide) (by decide) rfl ([]) rfl (Nat.le_of_ble_eq_true rfl) (by decide) dX12_isShown_21 (fun _ _ _ q => q.elim) (fun v9 A9 h9 hR9 => ?_)
    obtain ⟨rfl, hA9, rfl⟩ := hR9
    obtain rfl := hA9.symm
    refine v_st (k2 := 0) (n2 := 0) (st2 := [.int ((V_X12_rootOf g (0) ((g 42 (u).toNatClampNeg 0))))]) rfl rfl rfl ?_
    refine v_aload_n (pc := 24) C dX12_isShown_24 0 rfl rfl ?_
    refine v_get (pc := 25) C (40, 0) (v := .ref (A (43, 0))) ck_40 rfl 3 (by decide) inX12 wd_1391 rfl rfl dX12_isShown_25 ?_
    refine v_iload_n (pc := 28) C dX12_isShown_28 1 rfl rfl ?_
    refine v_iald (pc := 29) C (43, 0) (v := (g 43 (u).toNatClampNeg 0)) ck_43 (by (try simp only [Int32.le_iff_toInt_le, Int32.lt_iff_toInt_lt, ← Int32.toInt_inj, vp_in_iff, Int32.reduceToInt] at c_2 b_1 b_3 hu hg hf u_0 u_N hl0 hl ⊢) <;> omega) rfl dX12_isShown_29 ?_
    refine v_icmp_ne (pc := 30) (tgt := 37) C dX12_isShown_30 (by decide) (fun c_4 => ?_) (fun c_4 => ?_)
    · skip
      refine v_iconst (v := 0) (pc := 37) C dX12_isShown_37 rfl ?_
      exact v_zret (pc := 38) C rfl (by decide) (by decide) dX12_isShown_38 ⟨(congrArg (fun q => some (Value.int q)) (by show _ = _; rw [V_X12_isShown, if_neg c_2, if_neg c_4])), rfl, rfl⟩
    · skip
      refine v_iconst (v := 1) (pc := 33) C dX12_isShown_33 rfl ?_
      refine v_goto (tgt := 38) (pc := 34) C dX12_isShown_34 (by decide) ?_
      exact v_zret (pc := 38) C rfl (by decide) (by decide) dX12_isShown_38 ⟨(congrArg (fun q => some (Value.int q)) (by show _ = _; rw [V_X12_isShown, if_neg c_2, if_pos c_4])), rfl, rfl⟩
def V_X12_show (g : vS) (u : Int32) (x : Int32) : Int32 := (if (V_X12_isUser g (u)) = 0 then 0 else (if (V_X12_isBetween g (x) (0) ((g 11 0 0))) = 0 then 0 else (if x < (g 42 (u).toNatClampNeg 0) then 97 else (if (V_X12_isShown (S_X12_isWrong g (0)) (u)) = 0 then 97 else 107))))
def S_X12_show (g : vS) (u : Int32) (x : Int32) : vS := (if (V_X12_isUser g (u)) = 0 then (S_X12_isWrong g (1)) else (if (V_X12_isBetween g (x) (0) ((g 11 0 0))) = 0 then (S_X12_isWrong g (2)) else (if x < (g 42 (u).toNatClampNeg 0) then (s3 (S_X12_isWrong g (0)) 44 (u).toNatClampNeg 0 (((g 44 (u).toNatClampNeg 0) + 1))) else (if (V_X12_isShown (S_X12_isWrong g (0)) (u)) = 0 then (s3 (S_X12_isWrong g (0)) 44 (u).toNatClampNeg 0 (((g 44 (u).toNatClampNeg 0) + 1))) else (s3 (s3 (S_X12_isWrong g (0)) 42 (u).toNatClampNeg 0 (x)) 43 (u).toNatClampNeg 0 ((V_X12_rootOf (s3 (S_X12_isWrong g (0)) 42 (u).toNatClampNeg 0 (x)) (0) (x))))))))
theorem F_X12_show {g : vS} {u : Int32} {x : Int32} {c i j : Nat} (h1 : c ≠ 1) (h42 : c ≠ 42) (h43 : c ≠ 43) (h44 : c ≠ 44) : S_X12_show g u x c i j = g c i j := by
  unfold S_X12_show
  (repeat' split) <;> first | rfl | ((simp only [s3_k h1, s3_k h42, s3_k h43, s3_k h44, F_X12_isWrong h1]) <;> first | done | rfl)
set_option maxHeartbeats 4000000 in
set_option maxRecDepth 100000 in
theorem c_X12_show {G : vG} (hG : G.1.stackTraces = false) {A : vN → Nat} {g : vS} {r : vH} (u : Int32) (x : Int32) (hu0 : 0 ≤ (g 2 0 0).toInt) (hu : (g 2 0 0).toInt ≤ 6) (hg0 : 0 ≤ (g 3 0 0).toInt) (hg : (g 3 0 0).toInt ≤ 5) (hf0 : 0 ≤ (g 4 0 0).toInt) (hf : (g 4 0 0).toInt ≤ 20) (hl0 : 0 ≤ (g 11 0 0).toInt) (hl : (g 11 0 0).toInt ≤ 300) (h4 : vM4 g) : vCt G yX12_show cX12_show 3 (some .char) 304 [.ref (A (40, 0)), .int (u), .int (x)] A (wm g r) (fun v A2 h2 => v = some (.int (V_X12_show g u x)) ∧ A2 = A ∧ h2 = wm (S_X12_show g u x) r) (vNoX) 0 0 := by
  refine v_of hG (by decide +kernel) (Nat.le_of_ble_eq_true rfl) (lv := [(0, .ref (A (40, 0))), (1, .int (u)), (2, .int (x))]) rfl (fun X C hnx => ?_)
  have C : vC G X cX12_show 3 RX12 (some .char) "show" 304 0 0 := C
  refine v_aload_n (pc := 0) C dX12_show_0 0 rfl rfl ?_
  refine v_aload_n (pc := 1) C dX12_show_1 0 rfl rfl ?_
  refine v_iload_n (pc := 2) C dX12_show_2 1 rfl rfl ?_
  refine v_callV (pc := 3) C (40, 0) ck_40 rfl (c_X12_isUser hG (u) ) 1 wd_1539 wd_68 wd_1536 wd_1538 wd_36 (by decide +kernel) (by decide) (by decide) rfl ([.ref (A (40, 0))]) rfl (Nat.le_of_ble_eq_true rfl) (by decide) dX12_show_3 (fun _ _ _ q => q.elim) (fun v9 A9 h9 hR9 => ?_)
  obtain ⟨rfl, hA9, rfl⟩ := hR9
  obtain rfl := hA9.symm
  refine v_st (k2 := 0) (n2 := 0) (st2 := [.int ((V_X12_isUser g (u))), .ref (A (40, 0))]) rfl rfl rfl ?_
  have b_1 := ok_isUser (g := g) (x := u) hu0
  refine v_if_ne (pc := 6) (tgt := 13) C dX12_show_6 (by decide) (fun c_2 => ?_) (fun c_2 => ?_)
  · skip
    refine v_iload_n (pc := 13) C dX12_show_13 2 rfl rfl ?_
    refine v_iconst (v := 0) (pc := 14) C dX12_show_14 rfl ?_
    refine v_aload_n (pc := 15) C dX12_show_15 0 rfl rfl ?_
    refine v_get (pc := 16) C (40, 0) (v := .int ((g 11 0 0))) ck_40 rfl 36 (by decide) inX12 wd_1424 rfl rfl dX12_show_16 ?_
    refine v_callS (pc := 19) C (c_X12_isBetween hG (x) (0) ((g 11 0 0)) ) 3 wd_1527 wd_68 wd_1525 wd_1526 (by decide +kernel) (by decide) (by decide) rfl ([.ref (A (40, 0))]) rfl (Nat.le_of_ble_eq_true rfl) (by decide) dX12_show_19 (fun _ _ _ q => q.elim) (fun v9 A9 h9 hR9 => ?_)
    obtain ⟨rfl, hA9, rfl⟩ := hR9
    obtain rfl := hA9.symm
    refine v_st (k2 := 0) (n2 := 0) (st2 := [.int ((V_X12_isBetween g (x) (0) ((g 11 0 0)))), .ref (A (40, 0))]) rfl rfl rfl ?_
    have b_3 := ok_btw (g := g) (x := x) (a := 0) (b := (g 11 0 0))
    refine v_if_eq (pc := 22) (tgt := 29) C dX12_show_22 (by decide) (fun c_4 => ?_) (fun c_4 => ?_)
    · skip
      refine v_iconst (v := 2) (pc := 29) C dX12_show_29 rfl ?_
      refine v_callV (pc := 30) C (40, 0) ck_40 rfl (c_X12_isWrong hG (2) ) 1 wd_1531 wd_68 wd_1528 wd_1530 wd_35 (by decide +kernel) (by decide) (by decide) rfl ([]) rfl (Nat.le_of_ble_eq_true rfl) (by decide) dX12_show_30 (fun _ _ _ q => q.elim) (fun v9 A9 h9 hR9 => ?_)
      obtain ⟨rfl, hA9, rfl⟩ := hR9
      obtain rfl := hA9.symm
      refine v_st (k2 := 0) (n2 := 0) (st2 := [.int ((V_X12_isWrong g (2)))]) rfl rfl rfl ?_
      refine v_if_eq (pc := 33) (tgt := 38) C dX12_show_33 (by decide) (fun c_5 => ?_) (fun c_5 => ?_)
      · skip
        exact absurd c_5 (fun q9 => ((show ¬ (1 : Int32) = 0 from by decide)) q9)
      · skip
        refine v_iconst (v := 0) (pc := 36) C dX12_show_36 rfl ?_
        exact v_zret (pc := 37) C rfl (by decide) (by decide) dX12_show_37 ⟨(congrArg (fun q => some (Value.int q)) (by show _ = _; rw [V_X12_show, if_neg c_2, if_pos c_4])), rfl, (congrArg (fun q => wm q r) (by show _ = _; rw [S_X12_show, if_neg c_2, if_pos c_4]))⟩
    · skip
      refine v_iconst (v := 0) (pc := 25) C dX12_show_25 rfl ?_
      refine v_goto (tgt := 30) (pc := 26) C dX12_show_26 (by decide) ?_
      refine v_callV (pc := 30) C (40, 0) ck_40 rfl (c_X12_isWrong hG (0) ) 1 wd_1531 wd_68 wd_1528 wd_1530 wd_35 (by decide +kernel) (by decide) (by decide) rfl ([]) rfl (Nat.le_of_ble_eq_true rfl) (by decide) dX12_show_30 (fun _ _ _ q => q.elim) (fun v9 A9 h9 hR9 => ?_)
      obtain ⟨rfl, hA9, rfl⟩ := hR9
      obtain rfl := hA9.symm
      refine v_st (k2 := 0) (n2 := 0) (st2 := [.int ((V_X12_isWrong g (0)))]) rfl rfl rfl ?_
      refine v_if_eq (pc := 33) (tgt := 38) C dX12_show_33 (by decide) (fun c_6 => ?_) (fun c_6 => ?_)
      · skip
        refine v_iload_n (pc := 38) C dX12_show_38 2 rfl rfl ?_
        refine v_aload_n (pc := 39) C dX12_show_39 0 rfl rfl ?_
        refine v_get (pc := 40) C (40, 0) (v := .ref (A (42, 0))) ck_40 rfl 2 (by decide) inX12 wd_1390 rfl rfl dX12_show_40 ?_
        refine v_iload_n (pc := 43) C dX12_show_43 1 rfl rfl ?_
        refine v_iald (pc := 44) C (42, 0) (v := (g 42 (u).toNatClampNeg 0)) ck_42 (by (try simp only [Int32.le_iff_toInt_le, Int32.lt_iff_toInt_lt, ← Int32.toInt_inj, vp_in_iff, Int32.reduceToInt] at c_2 c_4 c_6 b_1 b_3 hu hg hf hl0 hl ⊢) <;> omega) (F_X12_isWrong (by decide)) dX12_show_44 ?_
        have b_7 := h4 (u).toNatClampNeg
        refine v_icmp_lt (pc := 45) (tgt := 56) C dX12_show_45 (by decide) (fun c_8 => ?_) (fun c_8 => ?_)
        · skip
          refine v_aload_n (pc := 56) C dX12_show_56 0 rfl rfl ?_
          refine v_get (pc := 57) C (40, 0) (v := .ref (A (44, 0))) ck_40 rfl 4 (by decide) inX12 wd_1392 rfl rfl dX12_show_57 ?_
          refine v_iload_n (pc := 60) C dX12_show_60 1 rfl rfl ?_
          refine v_dup2_11 (pc := 61) C dX12_show_61 rfl rfl ?_
          refine v_iald (pc := 62) C (44, 0) (v := (g 44 (u).toNatClampNeg 0)) ck_44 (by (try simp only [Int32.le_iff_toInt_le, Int32.lt_iff_toInt_lt, ← Int32.toInt_inj, vp_in_iff, Int32.reduceToInt] at c_2 c_4 c_6 c_8 b_1 b_3 b_7 hu hg hf hl0 hl ⊢) <;> omega) (F_X12_isWrong (by decide)) dX12_show_62 ?_
          refine v_iconst (v := 1) (pc := 63) C dX12_show_63 rfl ?_
          refine v_iadd (pc := 64) C dX12_show_64 ?_
          refine v_iast (pc := 65) C (44, 0) (x := ((g 44 (u).toNatClampNeg 0) + 1)) ck_44 (by (try simp only [Int32.le_iff_toInt_le, Int32.lt_iff_toInt_lt, ← Int32.toInt_inj, vp_in_iff, Int32.reduceToInt] at c_2 c_4 c_6 c_8 b_1 b_3 b_7 hu hg hf hl0 hl ⊢) <;> omega) dX12_show_65 ?_
          refine v_h (h2 := (wm (s3 (S_X12_isWrong g (0)) 44 (u).toNatClampNeg 0 (((g 44 (u).toNatClampNeg 0) + 1))) r)) (u_44_a) ?_
          refine v_bipush (v := 97) (pc := 66) C dX12_show_66 (by decide) ?_
          exact v_zret (pc := 68) C rfl (by decide) (by decide) dX12_show_68 ⟨(congrArg (fun q => some (Value.int q)) (by show _ = _; rw [V_X12_show, if_neg c_2, if_neg c_4, if_pos c_8])), rfl, (congrArg (fun q => wm q r) (by show _ = _; rw [S_X12_show, if_neg c_2, if_neg c_4, if_pos c_8]))⟩
        · skip
          refine v_aload_n (pc := 48) C dX12_show_48 0 rfl rfl ?_
          refine v_iload_n (pc := 49) C dX12_show_49 1 rfl rfl ?_
          refine v_callV (pc := 50) C (40, 0) ck_40 rfl (c_X12_isShown hG (u) (by rw [show (S_X12_isWrong g (0)) 2 0 0 = g 2 0 0 from F_X12_isWrong (by decide)]; exact hu0) (by rw [show (S_X12_isWrong g (0)) 2 0 0 = g 2 0 0 from F_X12_isWrong (by decide)]; exact hu) (by rw [show (S_X12_isWrong g (0)) 3 0 0 = g 3 0 0 from F_X12_isWrong (by decide)]; exact hg0) (by rw [show (S_X12_isWrong g (0)) 3 0 0 = g 3 0 0 from F_X12_isWrong (by decide)]; exact hg) (by rw [show (S_X12_isWrong g (0)) 4 0 0 = g 4 0 0 from F_X12_isWrong (by decide)]; exact hf0) (by rw [show (S_X12_isWrong g (0)) 4 0 0 = g 4 0 0 from F_X12_isWrong (by decide)]; exact hf) (by (try simp only [Int32.le_iff_toInt_le, Int32.lt_iff_toInt_lt, ← Int32.toInt_inj, Int32.reduceToInt] at c_2 c_4 c_6 c_8 b_1 b_3 b_7 hu hg hf hl0 hl ⊢); omega) (by (try simp only [Int32.le_iff_toInt_le, Int32.lt_iff_toInt_lt, ← Int32.toInt_inj, Int32.reduceToInt] at c_2 c_4 c_6 c_8 b_1 b_3 b_7 hu hg hf hl0 hl ⊢); omega) (by rw [show (S_X12_isWrong g (0)) 11 0 0 = g 11 0 0 from F_X12_isWrong (by decide)]; exact hl0) (by rw [show (S_X12_isWrong g (0)) 11 0 0 = g 11 0 0 from F_X12_isWrong (by decide)]; exact hl) (vM4_k (fun _ _ => F_X12_isWrong (by decide)) h4)) 1 wd_1789 wd_68 wd_1786 wd_1788 wd_59 (by decide +kernel) (by decide) (by decide) rfl ([]) rfl (Nat.le_of_ble_eq_true rfl) (by decide) dX12_show_50 (fun _ _ _ q => q.elim) (fun v9 A9 h9 hR9 => ?_)
          obtain ⟨rfl, hA9, rfl⟩ := hR9
          obtain rfl := hA9.symm
          refine v_st (k2 := 0) (n2 := 0) (st2 := [.int ((V_X12_isShown (S_X12_isWrong g (0)) (u)))]) rfl rfl rfl ?_
          refine v_if_ne (pc := 53) (tgt := 69) C dX12_show_53 (by decide) (fun c_9 => ?_) (fun c_9 => ?_)
          · skip
            refine v_aload_n (pc := 69) C dX12_show_69 0 rfl rfl ?_
            refine v_get (pc := 70) C (40, 0) (v := .ref (A (42, 0))) ck_40 rfl 2 (by decide) inX12 wd_1390 rfl rfl dX12_show_70 ?_
            refine v_iload_n (pc := 73) C dX12_show_73 1 rfl rfl ?_
            refine v_iload_n (pc := 74) C dX12_show_74 2 rfl rfl ?_
            refine v_iast (pc := 75) C (42, 0) (x := x) ck_42 (by (try simp only [Int32.le_iff_toInt_le, Int32.lt_iff_toInt_lt, ← Int32.toInt_inj, vp_in_iff, Int32.reduceToInt] at c_2 c_4 c_6 c_8 c_9 b_1 b_3 b_7 hu hg hf hl0 hl ⊢) <;> omega) dX12_show_75 ?_
            refine v_h (h2 := (wm (s3 (S_X12_isWrong g (0)) 42 (u).toNatClampNeg 0 (x)) r)) (u_42_a) ?_
            refine v_aload_n (pc := 76) C dX12_show_76 0 rfl rfl ?_
            refine v_get (pc := 77) C (40, 0) (v := .ref (A (43, 0))) ck_40 rfl 3 (by decide) inX12 wd_1391 rfl rfl dX12_show_77 ?_
            refine v_iload_n (pc := 80) C dX12_show_80 1 rfl rfl ?_
            refine v_aload_n (pc := 81) C dX12_show_81 0 rfl rfl ?_
            refine v_iconst (v := 0) (pc := 82) C dX12_show_82 rfl ?_
            refine v_iload_n (pc := 83) C dX12_show_83 2 rfl rfl ?_
            refine v_callV (pc := 84) C (40, 0) ck_40 rfl (c_X12_rootOf hG (0) (x) (by (try simp only [Int32.le_iff_toInt_le, Int32.lt_iff_toInt_lt, ← Int32.toInt_inj, Int32.reduceToInt] at c_2 c_4 c_6 c_8 c_9 b_1 b_3 b_7 hu hg hf hl0 hl ⊢); omega) (by (try simp only [Int32.le_iff_toInt_le, Int32.lt_iff_toInt_lt, ← Int32.toInt_inj, Int32.reduceToInt] at c_2 c_4 c_6 c_8 c_9 b_1 b_3 b_7 hu hg hf hl0 hl ⊢); omega) (by (try simp only [Int32.le_iff_toInt_le, Int32.lt_iff_toInt_lt, ← Int32.toInt_inj, Int32.reduceToInt] at c_2 c_4 c_6 c_8 c_9 b_1 b_3 b_7 hu hg hf hl0 hl ⊢); omega) (by (try simp only [Int32.le_iff_toInt_le, Int32.lt_iff_toInt_lt, ← Int32.toInt_inj, Int32.reduceToInt] at c_2 c_4 c_6 c_8 c_9 b_1 b_3 b_7 hu hg hf hl0 hl ⊢); omega)) 2 wd_1736 wd_68 wd_1733 wd_1735 wd_54 (by decide +kernel) (by decide) (by decide) rfl ([.int (u), .ref (A (43, 0))]) rfl (Nat.le_of_ble_eq_true rfl) (by decide) dX12_show_84 (fun _ _ _ q => q.elim) (fun v9 A9 h9 hR9 => ?_)
            obtain ⟨rfl, hA9, rfl⟩ := hR9
            obtain rfl := hA9.symm
            refine v_st (k2 := 0) (n2 := 0) (st2 := [.int ((V_X12_rootOf (s3 (S_X12_isWrong g (0)) 42 (u).toNatClampNeg 0 (x)) (0) (x))), .int (u), .ref (A (43, 0))]) rfl rfl rfl ?_
            refine v_iast (pc := 87) C (43, 0) (x := (V_X12_rootOf (s3 (S_X12_isWrong g (0)) 42 (u).toNatClampNeg 0 (x)) (0) (x))) ck_43 (by (try simp only [Int32.le_iff_toInt_le, Int32.lt_iff_toInt_lt, ← Int32.toInt_inj, vp_in_iff, Int32.reduceToInt] at c_2 c_4 c_6 c_8 c_9 b_1 b_3 b_7 hu hg hf hl0 hl ⊢) <;> omega) dX12_show_87 ?_
            refine v_h (h2 := (wm (s3 (s3 (S_X12_isWrong g (0)) 42 (u).toNatClampNeg 0 (x)) 43 (u).toNatClampNeg 0 ((V_X12_rootOf (s3 (S_X12_isWrong g (0)) 42 (u).toNatClampNeg 0 (x)) (0) (x)))) r)) (u_43_a) ?_
            refine v_bipush (v := 107) (pc := 88) C dX12_show_88 (by decide) ?_
            exact v_zret (pc := 90) C rfl (by decide) (by decide) dX12_show_90 ⟨(congrArg (fun q => some (Value.int q)) (by show _ = _; rw [V_X12_show, if_neg c_2, if_neg c_4, if_neg c_8, if_neg c_9])), rfl, (congrArg (fun q => wm q r) (by show _ = _; rw [S_X12_show, if_neg c_2, if_neg c_4, if_neg c_8, if_neg c_9]))⟩
          · skip
            refine v_aload_n (pc := 56) C dX12_show_56 0 rfl rfl ?_
            refine v_get (pc := 57) C (40, 0) (v := .ref (A (44, 0))) ck_40 rfl 4 (by decide) inX12 wd_1392 rfl rfl dX12_show_57 ?_
            refine v_iload_n (pc := 60) C dX12_show_60 1 rfl rfl ?_
            refine v_dup2_11 (pc := 61) C dX12_show_61 rfl rfl ?_
            refine v_iald (pc := 62) C (44, 0) (v := (g 44 (u).toNatClampNeg 0)) ck_44 (by (try simp only [Int32.le_iff_toInt_le, Int32.lt_iff_toInt_lt, ← Int32.toInt_inj, vp_in_iff, Int32.reduceToInt] at c_2 c_4 c_6 c_8 c_9 b_1 b_3 b_7 hu hg hf hl0 hl ⊢) <;> omega) (F_X12_isWrong (by decide)) dX12_show_62 ?_
            refine v_iconst (v := 1) (pc := 63) C dX12_show_63 rfl ?_
            refine v_iadd (pc := 64) C dX12_show_64 ?_
            refine v_iast (pc := 65) C (44, 0) (x := ((g 44 (u).toNatClampNeg 0) + 1)) ck_44 (by (try simp only [Int32.le_iff_toInt_le, Int32.lt_iff_toInt_lt, ← Int32.toInt_inj, vp_in_iff, Int32.reduceToInt] at c_2 c_4 c_6 c_8 c_9 b_1 b_3 b_7 hu hg hf hl0 hl ⊢) <;> omega) dX12_show_65 ?_
            refine v_h (h2 := (wm (s3 (S_X12_isWrong g (0)) 44 (u).toNatClampNeg 0 (((g 44 (u).toNatClampNeg 0) + 1))) r)) (u_44_a) ?_
            refine v_bipush (v := 97) (pc := 66) C dX12_show_66 (by decide) ?_
            exact v_zret (pc := 68) C rfl (by decide) (by decide) dX12_show_68 ⟨(congrArg (fun q => some (Value.int q)) (by show _ = _; rw [V_X12_show, if_neg c_2, if_neg c_4, if_neg c_8, if_pos c_9])), rfl, (congrArg (fun q => wm q r) (by show _ = _; rw [S_X12_show, if_neg c_2, if_neg c_4, if_neg c_8, if_pos c_9]))⟩
      · skip
        exact absurd c_6 (fun q9 => q9 ((show (0 : Int32) = 0 from rfl)))
  · skip
    refine v_iconst (v := 1) (pc := 9) C dX12_show_9 rfl ?_
    refine v_goto (tgt := 30) (pc := 10) C dX12_show_10 (by decide) ?_
    refine v_callV (pc := 30) C (40, 0) ck_40 rfl (c_X12_isWrong hG (1) ) 1 wd_1531 wd_68 wd_1528 wd_1530 wd_35 (by decide +kernel) (by decide) (by decide) rfl ([]) rfl (Nat.le_of_ble_eq_true rfl) (by decide) dX12_show_30 (fun _ _ _ q => q.elim) (fun v9 A9 h9 hR9 => ?_)
    obtain ⟨rfl, hA9, rfl⟩ := hR9
    obtain rfl := hA9.symm
    refine v_st (k2 := 0) (n2 := 0) (st2 := [.int ((V_X12_isWrong g (1)))]) rfl rfl rfl ?_
    refine v_if_eq (pc := 33) (tgt := 38) C dX12_show_33 (by decide) (fun c_10 => ?_) (fun c_10 => ?_)
    · skip
      exact absurd c_10 (fun q9 => ((show ¬ (1 : Int32) = 0 from by decide)) q9)
    · skip
      refine v_iconst (v := 0) (pc := 36) C dX12_show_36 rfl ?_
      exact v_zret (pc := 37) C rfl (by decide) (by decide) dX12_show_37 ⟨(congrArg (fun q => some (Value.int q)) (by show _ = _; rw [V_X12_show, if_pos c_2])), rfl, (congrArg (fun q => wm q r) (by show _ = _; rw [S_X12_show, if_pos c_2]))⟩
def V_X12_meet (g : vS) (u : Int32) (x : Int32) : Int32 := (if (V_X12_isUser g (u)) = 0 then 0 else (if (V_X12_isUser g (x)) = 0 then 0 else (if u = x then 0 else (if (g 42 (u).toNatClampNeg 0) = (g 42 (x).toNatClampNeg 0) then (if (g 43 (u).toNatClampNeg 0) = (g 43 (x).toNatClampNeg 0) then 107 else (if (V_X12_isShown (S_X12_isWrong g (0)) (u)) = 0 then 97 else (if (V_X12_isShown (S_X12_isWrong g (0)) (x)) = 0 then 97 else 107))) else (if (V_X12_isShown (S_X12_isWrong g (0)) (u)) = 0 then 97 else (if (V_X12_isShown (S_X12_isWrong g (0)) (x)) = 0 then 97 else 107))))))
def S_X12_meet (g : vS) (u : Int32) (x : Int32) : vS := (if (V_X12_isUser g (u)) = 0 then (S_X12_isWrong g (1)) else (if (V_X12_isUser g (x)) = 0 then (S_X12_isWrong g (1)) else (if u = x then (S_X12_isWrong g (2)) else (if (g 42 (u).toNatClampNeg 0) = (g 42 (x).toNatClampNeg 0) then (if (g 43 (u).toNatClampNeg 0) = (g 43 (x).toNatClampNeg 0) then (S_X12_isWrong g (0)) else (if (V_X12_isShown (S_X12_isWrong g (0)) (u)) = 0 then (s3 (s3 (S_X12_isWrong g (0)) 44 (u).toNatClampNeg 0 (((g 44 (u).toNatClampNeg 0) + 1))) 44 (x).toNatClampNeg 0 ((((s3 (S_X12_isWrong g (0)) 44 (u).toNatClampNeg 0 (((g 44 (u).toNatClampNeg 0) + 1))) 44 (x).toNatClampNeg 0) + 1))) else (if (V_X12_isShown (S_X12_isWrong g (0)) (x)) = 0 then (s3 (s3 (S_X12_isWrong g (0)) 44 (u).toNatClampNeg 0 (((g 44 (u).toNatClampNeg 0) + 1))) 44 (x).toNatClampNeg 0 ((((s3 (S_X12_isWrong g (0)) 44 (u).toNatClampNeg 0 (((g 44 (u).toNatClampNeg 0) + 1))) 44 (x).toNatClampNeg 0) + 1))) else (S_X12_isWrong g (0))))) else (if (V_X12_isShown (S_X12_isWrong g (0)) (u)) = 0 then (s3 (s3 (S_X12_isWrong g (0)) 44 (u).toNatClampNeg 0 (((g 44 (u).toNatClampNeg 0) + 1))) 44 (x).toNatClampNeg 0 ((((s3 (S_X12_isWrong g (0)) 44 (u).toNatClampNeg 0 (((g 44 (u).toNatClampNeg 0) + 1))) 44 (x).toNatClampNeg 0) + 1))) else (if (V_X12_isShown (S_X12_isWrong g (0)) (x)) = 0 then (s3 (s3 (S_X12_isWrong g (0)) 44 (u).toNatClampNeg 0 (((g 44 (u).toNatClampNeg 0) + 1))) 44 (x).toNatClampNeg 0 ((((s3 (S_X12_isWrong g (0)) 44 (u).toNatClampNeg 0 (((g 44 (u).toNatClampNeg 0) + 1))) 44 (x).toNatClampNeg 0) + 1))) else (S_X12_isWrong g (0))))))))
theorem F_X12_meet {g : vS} {u : Int32} {x : Int32} {c i j : Nat} (h1 : c ≠ 1) (h44 : c ≠ 44) : S_X12_meet g u x c i j = g c i j := by
  unfold S_X12_meet
  (repeat' split) <;> first | rfl | ((simp only [s3_k h1, s3_k h44, F_X12_isWrong h1]) <;> first | done | rfl)
set_option maxHeartbeats 4000000 in
set_option maxRecDepth 100000 in
theorem c_X12_meet {G : vG} (hG : G.1.stackTraces = false) {A : vN → Nat} {g : vS} {r : vH} (u : Int32) (x : Int32) (hu0 : 0 ≤ (g 2 0 0).toInt) (hu : (g 2 0 0).toInt ≤ 6) (hg0 : 0 ≤ (g 3 0 0).toInt) (hg : (g 3 0 0).toInt ≤ 5) (hf0 : 0 ≤ (g 4 0 0).toInt) (hf : (g 4 0 0).toInt ≤ 20) (hl0 : 0 ≤ (g 11 0 0).toInt) (hl : (g 11 0 0).toInt ≤ 300) (h4 : vM4 g) : vCt G yX12_meet cX12_meet 4 (some .char) 304 [.ref (A (40, 0)), .int (u), .int (x)] A (wm g r) (fun v A2 h2 => v = some (.int (V_X12_meet g u x)) ∧ A2 = A ∧ h2 = wm (S_X12_meet g u x) r) (vNoX) 0 0 := by
  refine v_of hG (by decide +kernel) (Nat.le_of_ble_eq_true rfl) (lv := [(0, .ref (A (40, 0))), (1, .int (u)), (2, .int (x))]) rfl (fun X C hnx => ?_)
  have C : vC G X cX12_meet 4 RX12 (some .char) "meet" 304 0 0 := C
  refine v_aload_n (pc := 0) C dX12_meet_0 0 rfl rfl ?_
  refine v_aload_n (pc := 1) C dX12_meet_1 0 rfl rfl ?_
  refine v_iload_n (pc := 2) C dX12_meet_2 1 rfl rfl ?_
  refine v_callV (pc := 3) C (40, 0) ck_40 rfl (c_X12_isUser hG (u) ) 1 wd_1539 wd_68 wd_1536 wd_1538 wd_36 (by decide +kernel) (by decide) (by decide) rfl ([.ref (A (40, 0))]) rfl (Nat.le_of_ble_eq_true rfl) (by decide) dX12_meet_3 (fun _ _ _ q => q.elim) (fun v9 A9 h9 hR9 => ?_)
  obtain ⟨rfl, hA9, rfl⟩ := hR9
  obtain rfl := hA9.symm
  refine v_st (k2 := 0) (n2 := 0) (st2 := [.int ((V_X12_isUser g (u))), .ref (A (40, 0))]) rfl rfl rfl ?_
  have b_1 := ok_isUser (g := g) (x := u) hu0
  refine v_if_eq (pc := 6) (tgt := 17) C dX12_meet_6 (by decide) (fun c_2 => ?_) (fun c_2 => ?_)
  · skip
    refine v_iconst (v := 1) (pc := 17) C dX12_meet_17 rfl ?_
    refine v_goto (tgt := 31) (pc := 18) C dX12_meet_18 (by decide) ?_
    refine v_callV (pc := 31) C (40, 0) ck_40 rfl (c_X12_isWrong hG (1) ) 1 wd_1531 wd_68 wd_1528 wd_1530 wd_35 (by decide +kernel) (by decide) (by decide) rfl ([]) rfl (Nat.le_of_ble_eq_true rfl) (by decide) dX12_meet_31 (fun _ _ _ q => q.elim) (fun v9 A9 h9 hR9 => ?_)
    obtain ⟨rfl, hA9, rfl⟩ := hR9
    obtain rfl := hA9.symm
    refine v_st (k2 := 0) (n2 := 0) (st2 := [.int ((V_X12_isWrong g (1)))]) rfl rfl rfl ?_
    refine v_if_eq (pc := 34) (tgt := 39) C dX12_meet_34 (by decide) (fun c_3 => ?_) (fun c_3 => ?_)
    · skip
      exact absurd c_3 (fun q9 => ((show ¬ (1 : Int32) = 0 from by decide)) q9)
    · skip
      refine v_iconst (v := 0) (pc := 37) C dX12_meet_37 rfl ?_
      exact v_zret (pc := 38) C rfl (by decide) (by decide) dX12_meet_38 ⟨(congrArg (fun q => some (Value.int q)) (by show _ = _; rw [V_X12_meet, if_pos c_2])), rfl, (congrArg (fun q => wm q r) (by show _ = _; rw [S_X12_meet, if_pos c_2]))⟩
  · skip
    refine v_aload_n (pc := 9) C dX12_meet_9 0 rfl rfl ?_
    refine v_iload_n (pc := 10) C dX12_meet_10 2 rfl rfl ?_
    refine v_callV (pc := 11) C (40, 0) ck_40 rfl (c_X12_isUser hG (x) ) 1 wd_1539 wd_68 wd_1536 wd_1538 wd_36 (by decide +kernel) (by decide) (by decide) rfl ([.ref (A (40, 0))]) rfl (Nat.le_of_ble_eq_true rfl) (by decide) dX12_meet_11 (fun _ _ _ q => q.elim) (fun v9 A9 h9 hR9 => ?_)
    obtain ⟨rfl, hA9, rfl⟩ := hR9
    obtain rfl := hA9.symm
    refine v_st (k2 := 0) (n2 := 0) (st2 := [.int ((V_X12_isUser g (x))), .ref (A (40, 0))]) rfl rfl rfl ?_
    have b_4 := ok_isUser (g := g) (x := x) hu0
    refine v_if_ne (pc := 14) (tgt := 21) C dX12_meet_14 (by decide) (fun c_5 => ?_) (fun c_5 => ?_)
    · skip
      refine v_iload_n (pc := 21) C dX12_meet_21 1 rfl rfl ?_
      refine v_iload_n (pc := 22) C dX12_meet_22 2 rfl rfl ?_
      refine v_icmp_ne (pc := 23) (tgt := 30) C dX12_meet_23 (by decide) (fun c_6 => ?_) (fun c_6 => ?_)
      · skip
        refine v_iconst (v := 0) (pc := 30) C dX12_meet_30 rfl ?_
        refine v_callV (pc := 31) C (40, 0) ck_40 rfl (c_X12_isWrong hG (0) ) 1 wd_1531 wd_68 wd_1528 wd_1530 wd_35 (by decide +kernel) (by decide) (by decide) rfl ([]) rfl (Nat.le_of_ble_eq_true rfl) (by decide) dX12_meet_31 (fun _ _ _ q => q.elim) (fun v9 A9 h9 hR9 => ?_)
        obtain ⟨rfl, hA9, rfl⟩ := hR9
        obtain rfl := hA9.symm
        refine v_st (k2 := 0) (n2 := 0) (st2 := [.int ((V_X12_isWrong g (0)))]) rfl rfl rfl ?_
        refine v_if_eq (pc := 34) (tgt := 39) C dX12_meet_34 (by decide) (fun c_7 => ?_) (fun c_7 => ?_)
        · skip
          refine v_aload_n (pc := 39) C dX12_meet_39 0 rfl rfl ?_
          refine v_get (pc := 40) C (40, 0) (v := .ref (A (42, 0))) ck_40 rfl 2 (by decide) inX12 wd_1390 rfl rfl dX12_meet_40 ?_
          refine v_iload_n (pc := 43) C dX12_meet_43 1 rfl rfl ?_
          refine v_iald (pc := 44) C (42, 0) (v := (g 42 (u).toNatClampNeg 0)) ck_42 (by (try simp only [Int32.le_iff_toInt_le, Int32.lt_iff_toInt_lt, ← Int32.toInt_inj, vp_in_iff, Int32.reduceToInt] at c_2 c_5 c_6 c_7 b_1 b_4 hu hg hf hl0 hl ⊢) <;> omega) (F_X12_isWrong (by decide)) dX12_meet_44 ?_
          have b_8 := h4 (u).toNatClampNeg
          refine v_aload_n (pc := 45) C dX12_meet_45 0 rfl rfl ?_
          refine v_get (pc := 46) C (40, 0) (v := .ref (A (42, 0))) ck_40 rfl 2 (by decide) inX12 wd_1390 rfl rfl dX12_meet_46 ?_
          refine v_iload_n (pc := 49) C dX12_meet_49 2 rfl rfl ?_
          refine v_iald (pc := 50) C (42, 0) (v := (g 42 (x).toNatClampNeg 0)) ck_42 (by (try simp only [Int32.le_iff_toInt_le, Int32.lt_iff_toInt_lt, ← Int32.toInt_inj, vp_in_iff, Int32.reduceToInt] at c_2 c_5 c_6 c_7 b_1 b_4 b_8 hu hg hf hl0 hl ⊢) <;> omega) (F_X12_isWrong (by decide)) dX12_meet_50 ?_
          have b_9 := h4 (x).toNatClampNeg
          refine v_icmp_ne (pc := 51) (tgt := 73) C dX12_meet_51 (by decide) (fun c_10 => ?_) (fun c_10 => ?_)
          · skip
            refine v_iconst (v := 0) (pc := 73) C dX12_meet_73 rfl ?_
            refine v_istore_n (lv2 := [(3, .int (0)), (0, .ref (A (40, 0))), (1, .int (u)), (2, .int (x))]) (pc := 74) C dX12_meet_74 rfl (by decide) rfl ?_
            refine v_iload_n (pc := 75) C dX12_meet_75 0 rfl rfl ?_
            refine v_if_ne (pc := 76) (tgt := 95) C dX12_meet_76 (by decide) (fun c_11 => ?_) (fun c_11 => ?_)
            · skip
              exact absurd c_11 (by decide)
            · skip
              refine v_aload_n (pc := 79) C dX12_meet_79 1 rfl rfl ?_
              refine v_iload_n (pc := 80) C dX12_meet_80 2 rfl rfl ?_
              refine v_callV (pc := 81) C (40, 0) ck_40 rfl (c_X12_isShown hG (u) (by rw [show (S_X12_isWrong g (0)) 2 0 0 = g 2 0 0 from F_X12_isWrong (by decide)]; exact hu0) (by rw [show (S_X12_isWrong g (0)) 2 0 0 = g 2 0 0 from F_X12_isWrong (by decide)]; exact hu) (by rw [show (S_X12_isWrong g (0)) 3 0 0 = g 3 0 0 from F_X12_isWrong (by decide)]; exact hg0) (by rw [show (S_X12_isWrong g (0)) 3 0 0 = g 3 0 0 from F_X12_isWrong (by decide)]; exact hg) (by rw [show (S_X12_isWrong g (0)) 4 0 0 = g 4 0 0 from F_X12_isWrong (by decide)]; exact hf0) (by rw [show (S_X12_isWrong g (0)) 4 0 0 = g 4 0 0 from F_X12_isWrong (by decide)]; exact hf) (by (try simp only [Int32.le_iff_toInt_le, Int32.lt_iff_toInt_lt, ← Int32.toInt_inj, Int32.reduceToInt] at c_2 c_5 c_6 c_7 c_10 c_11 b_1 b_4 b_8 b_9 hu hg hf hl0 hl ⊢); omega) (by (try simp only [Int32.le_iff_toInt_le, Int32.lt_iff_toInt_lt, ← Int32.toInt_inj, Int32.reduceToInt] at c_2 c_5 c_6 c_7 c_10 c_11 b_1 b_4 b_8 b_9 hu hg hf hl0 hl ⊢); omega) (by rw [show (S_X12_isWrong g (0)) 11 0 0 = g 11 0 0 from F_X12_isWrong (by decide)]; exact hl0) (by rw [show (S_X12_isWrong g (0)) 11 0 0 = g 11 0 0 from F_X12_isWrong (by decide)]; exact hl) (vM4_k (fun _ _ => F_X12_isWrong (by decide)) h4)) 1 wd_1789 wd_68 wd_1786 wd_1788 wd_59 (by decide +kernel) (by decide) (by decide) rfl ([]) rfl (Nat.le_of_ble_eq_true rfl) (by decide) dX12_meet_81 (fun _ _ _ q => q.elim) (fun v9 A9 h9 hR9 => ?_)
              obtain ⟨rfl, hA9, rfl⟩ := hR9
              obtain rfl := hA9.symm
              refine v_st (k2 := 0) (n2 := 0) (st2 := [.int ((V_X12_isShown (S_X12_isWrong g (0)) (u)))]) rfl rfl rfl ?_
              refine v_if_eq (pc := 84) (tgt := 98) C dX12_meet_84 (by decide) (fun c_12 => ?_) (fun c_12 => ?_)
              · skip
                refine v_aload_n (pc := 98) C dX12_meet_98 1 rfl rfl ?_
                refine v_get (pc := 99) C (40, 0) (v := .ref (A (44, 0))) ck_40 rfl 4 (by decide) inX12 wd_1392 rfl rfl dX12_meet_99 ?_
                refine v_iload_n (pc := 102) C dX12_meet_102 2 rfl rfl ?_
                refine v_dup2_11 (pc := 103) C dX12_meet_103 rfl rfl ?_
                refine v_iald (pc := 104) C (44, 0) (v := (g 44 (u).toNatClampNeg 0)) ck_44 (by (try simp only [Int32.le_iff_toInt_le, Int32.lt_iff_toInt_lt, ← Int32.toInt_inj, vp_in_iff, Int32.reduceToInt] at c_2 c_5 c_6 c_7 c_10 c_11 c_12 b_1 b_4 b_8 b_9 hu hg hf hl0 hl ⊢) <;> omega) (F_X12_isWrong (by decide)) dX12_meet_104 ?_
                refine v_iconst (v := 1) (pc := 105) C dX12_meet_105 rfl ?_
                refine v_iadd (pc := 106) C dX12_meet_106 ?_
                refine v_iast (pc := 107) C (44, 0) (x := ((g 44 (u).toNatClampNeg 0) + 1)) ck_44 (by (try simp only [Int32.le_iff_toInt_le, Int32.lt_iff_toInt_lt, ← Int32.toInt_inj, vp_in_iff, Int32.reduceToInt] at c_2 c_5 c_6 c_7 c_10 c_11 c_12 b_1 b_4 b_8 b_9 hu hg hf hl0 hl ⊢) <;> omega) dX12_meet_107 ?_
                refine v_h (h2 := (wm (s3 (S_X12_isWrong g (0)) 44 (u).toNatClampNeg 0 (((g 44 (u).toNatClampNeg 0) + 1))) r)) (u_44_a) ?_
                refine v_aload_n (pc := 108) C dX12_meet_108 1 rfl rfl ?_
                refine v_get (pc := 109) C (40, 0) (v := .ref (A (44, 0))) ck_40 rfl 4 (by decide) inX12 wd_1392 rfl rfl dX12_meet_109 ?_
                refine v_iload_n (pc := 112) C dX12_meet_112 3 rfl rfl ?_
                refine v_dup2_11 (pc := 113) C dX12_meet_113 rfl rfl ?_
                refine v_iald (pc := 114) C (44, 0) (v := ((s3 (S_X12_isWrong g (0)) 44 (u).toNatClampNeg 0 (((g 44 (u).toNatClampNeg 0) + 1))) 44 (x).toNatClampNeg 0)) ck_44 (by (try simp only [Int32.le_iff_toInt_le, Int32.lt_iff_toInt_lt, ← Int32.toInt_inj, vp_in_iff, Int32.reduceToInt] at c_2 c_5 c_6 c_7 c_10 c_11 c_12 b_1 b_4 b_8 b_9 hu hg hf hl0 hl ⊢) <;> omega) rfl dX12_meet_114 ?_
                refine v_iconst (v := 1) (pc := 115) C dX12_meet_115 rfl ?_
                refine v_iadd (pc := 116) C dX12_meet_116 ?_
                refine v_iast (pc := 117) C (44, 0) (x := (((s3 (S_X12_isWrong g (0)) 44 (u).toNatClampNeg 0 (((g 44 (u).toNatClampNeg 0) + 1))) 44 (x).toNatClampNeg 0) + 1)) ck_44 (by (try simp only [Int32.le_iff_toInt_le, Int32.lt_iff_toInt_lt, ← Int32.toInt_inj, vp_in_iff, Int32.reduceToInt] at c_2 c_5 c_6 c_7 c_10 c_11 c_12 b_1 b_4 b_8 b_9 hu hg hf hl0 hl ⊢) <;> omega) dX12_meet_117 ?_
                refine v_h (h2 := (wm (s3 (s3 (S_X12_isWrong g (0)) 44 (u).toNatClampNeg 0 (((g 44 (u).toNatClampNeg 0) + 1))) 44 (x).toNatClampNeg 0 ((((s3 (S_X12_isWrong g (0)) 44 (u).toNatClampNeg 0 (((g 44 (u).toNatClampNeg 0) + 1))) 44 (x).toNatClampNeg 0) + 1))) r)) (u_44_a) ?_
                refine v_bipush (v := 97) (pc := 118) C dX12_meet_118 (by decide) ?_
                exact v_zret (pc := 120) C rfl (by decide) (by decide) dX12_meet_120 ⟨(congrArg (fun q => some (Value.int q)) (by show _ = _; rw [V_X12_meet, if_neg c_2, if_neg c_5, if_neg c_6, if_neg c_10, if_pos c_12])), rfl, (congrArg (fun q => wm q r) (by show _ = _; rw [S_X12_meet, if_neg c_2, if_neg c_5, if_neg c_6, if_neg c_10, if_pos c_12]))⟩
              · skip
                refine v_aload_n (pc := 87) C dX12_meet_87 1 rfl rfl ?_
                refine v_iload_n (pc := 88) C dX12_meet_88 3 rfl rfl ?_
                refine v_callV (pc := 89) C (40, 0) ck_40 rfl (c_X12_isShown hG (x) (by rw [show (S_X12_isWrong g (0)) 2 0 0 = g 2 0 0 from F_X12_isWrong (by decide)]; exact hu0) (by rw [show (S_X12_isWrong g (0)) 2 0 0 = g 2 0 0 from F_X12_isWrong (by decide)]; exact hu) (by rw [show (S_X12_isWrong g (0)) 3 0 0 = g 3 0 0 from F_X12_isWrong (by decide)]; exact hg0) (by rw [show (S_X12_isWrong g (0)) 3 0 0 = g 3 0 0 from F_X12_isWrong (by decide)]; exact hg) (by rw [show (S_X12_isWrong g (0)) 4 0 0 = g 4 0 0 from F_X12_isWrong (by decide)]; exact hf0) (by rw [show (S_X12_isWrong g (0)) 4 0 0 = g 4 0 0 from F_X12_isWrong (by decide)]; exact hf) (by (try simp only [Int32.le_iff_toInt_le, Int32.lt_iff_toInt_lt, ← Int32.toInt_inj, Int32.reduceToInt] at c_2 c_5 c_6 c_7 c_10 c_11 c_12 b_1 b_4 b_8 b_9 hu hg hf hl0 hl ⊢); omega) (by (try simp only [Int32.le_iff_toInt_le, Int32.lt_iff_toInt_lt, ← Int32.toInt_inj, Int32.reduceToInt] at c_2 c_5 c_6 c_7 c_10 c_11 c_12 b_1 b_4 b_8 b_9 hu hg hf hl0 hl ⊢); omega) (by rw [show (S_X12_isWrong g (0)) 11 0 0 = g 11 0 0 from F_X12_isWrong (by decide)]; exact hl0) (by rw [show (S_X12_isWrong g (0)) 11 0 0 = g 11 0 0 from F_X12_isWrong (by decide)]; exact hl) (vM4_k (fun _ _ => F_X12_isWrong (by decide)) h4)) 1 wd_1789 wd_68 wd_1786 wd_1788 wd_59 (by decide +kernel) (by decide) (by decide) rfl ([]) rfl (Nat.le_of_ble_eq_true rfl) (by decide) dX12_meet_89 (fun _ _ _ q => q.elim) (fun v9 A9 h9 hR9 => ?_)
                obtain ⟨rfl, hA9, rfl⟩ := hR9
                obtain rfl := hA9.symm
                refine v_st (k2 := 0) (n2 := 0) (st2 := [.int ((V_X12_isShown (S_X12_isWrong g (0)) (x)))]) rfl rfl rfl ?_
                refine v_if_eq (pc := 92) (tgt := 98) C dX12_meet_92 (by decide) (fun c_13 => ?_) (fun c_13 => ?_)
                · skip
                  refine v_aload_n (pc := 98) C dX12_meet_98 1 rfl rfl ?_
                  refine v_get (pc := 99) C (40, 0) (v := .ref (A (44, 0))) ck_40 rfl 4 (by decide) inX12 wd_1392 rfl rfl dX12_meet_99 ?_
                  refine v_iload_n (pc := 102) C dX12_meet_102 2 rfl rfl ?_
                  refine v_dup2_11 (pc := 103) C dX12_meet_103 rfl rfl ?_
                  refine v_iald (pc := 104) C (44, 0) (v := (g 44 (u).toNatClampNeg 0)) ck_44 (by (try simp only [Int32.le_iff_toInt_le, Int32.lt_iff_toInt_lt, ← Int32.toInt_inj, vp_in_iff, Int32.reduceToInt] at c_2 c_5 c_6 c_7 c_10 c_11 c_12 c_13 b_1 b_4 b_8 b_9 hu hg hf hl0 hl ⊢) <;> omega) (F_X12_isWrong (by decide)) dX12_meet_104 ?_
                  refine v_iconst (v := 1) (pc := 105) C dX12_meet_105 rfl ?_
                  refine v_iadd (pc := 106) C dX12_meet_106 ?_
                  refine v_iast (pc := 107) C (44, 0) (x := ((g 44 (u).toNatClampNeg 0) + 1)) ck_44 (by (try simp only [Int32.le_iff_toInt_le, Int32.lt_iff_toInt_lt, ← Int32.toInt_inj, vp_in_iff, Int32.reduceToInt] at c_2 c_5 c_6 c_7 c_10 c_11 c_12 c_13 b_1 b_4 b_8 b_9 hu hg hf hl0 hl ⊢) <;> omega) dX12_meet_107 ?_
                  refine v_h (h2 := (wm (s3 (S_X12_isWrong g (0)) 44 (u).toNatClampNeg 0 (((g 44 (u).toNatClampNeg 0) + 1))) r)) (u_44_a) ?_
                  refine v_aload_n (pc := 108) C dX12_meet_108 1 rfl rfl ?_
                  refine v_get (pc := 109) C (40, 0) (v := .ref (A (44, 0))) ck_40 rfl 4 (by decide) inX12 wd_1392 rfl rfl dX12_meet_109 ?_
                  refine v_iload_n (pc := 112) C dX12_meet_112 3 rfl rfl ?_
                  refine v_dup2_11 (pc := 113) C dX12_meet_113 rfl rfl ?_
                  refine v_iald (pc := 114) C (44, 0) (v := ((s3 (S_X12_isWrong g (0)) 44 (u).toNatClampNeg 0 (((g 44 (u).toNatClampNeg 0) + 1))) 44 (x).toNatClampNeg 0)) ck_44 (by (try simp only [Int32.le_iff_toInt_le, Int32.lt_iff_toInt_lt, ← Int32.toInt_inj, vp_in_iff, Int32.reduceToInt] at c_2 c_5 c_6 c_7 c_10 c_11 c_12 c_13 b_1 b_4 b_8 b_9 hu hg hf hl0 hl ⊢) <;> omega) rfl dX12_meet_114 ?_
                  refine v_iconst (v := 1) (pc := 115) C dX12_meet_115 rfl ?_
                  refine v_iadd (pc := 116) C dX12_meet_116 ?_
                  refine v_iast (pc := 117) C (44, 0) (x := (((s3 (S_X12_isWrong g (0)) 44 (u).toNatClampNeg 0 (((g 44 (u).toNatClampNeg 0) + 1))) 44 (x).toNatClampNeg 0) + 1)) ck_44 (by (try simp only [Int32.le_iff_toInt_le, Int32.lt_iff_toInt_lt, ← Int32.toInt_inj, vp_in_iff, Int32.reduceToInt] at c_2 c_5 c_6 c_7 c_10 c_11 c_12 c_13 b_1 b_4 b_8 b_9 hu hg hf hl0 hl ⊢) <;> omega) dX12_meet_117 ?_
                  refine v_h (h2 := (wm (s3 (s3 (S_X12_isWrong g (0)) 44 (u).toNatClampNeg 0 (((g 44 (u).toNatClampNeg 0) + 1))) 44 (x).toNatClampNeg 0 ((((s3 (S_X12_isWrong g (0)) 44 (u).toNatClampNeg 0 (((g 44 (u).toNatClampNeg 0) + 1))) 44 (x).toNatClampNeg 0) + 1))) r)) (u_44_a) ?_
                  refine v_bipush (v := 97) (pc := 118) C dX12_meet_118 (by decide) ?_
                  exact v_zret (pc := 120) C rfl (by decide) (by decide) dX12_meet_120 ⟨(congrArg (fun q => some (Value.int q)) (by show _ = _; rw [V_X12_meet, if_neg c_2, if_neg c_5, if_neg c_6, if_neg c_10, if_neg c_12, if_pos c_13])), rfl, (congrArg (fun q => wm q r) (by show _ = _; rw [S_X12_meet, if_neg c_2, if_neg c_5, if_neg c_6, if_neg c_10, if_neg c_12, if_pos c_13]))⟩
                · skip
                  refine v_bipush (v := 107) (pc := 95) C dX12_meet_95 (by decide) ?_
                  exact v_zret (pc := 97) C rfl (by decide) (by decide) dX12_meet_97 ⟨(congrArg (fun q => some (Value.int q)) (by show _ = _; rw [V_X12_meet, if_neg c_2, if_neg c_5, if_neg c_6, if_neg c_10, if_neg c_12, if_neg c_13])), rfl, (congrArg (fun q => wm q r) (by show _ = _; rw [S_X12_meet, if_neg c_2, if_neg c_5, if_neg c_6, if_neg c_10, if_neg c_12, if_neg c_13]))⟩
          · skip
            refine v_aload_n (pc := 54) C dX12_meet_54 0 rfl rfl ?_
            refine v_get (pc := 55) C (40, 0) (v := .ref (A (43, 0))) ck_40 rfl 3 (by decide) inX12 wd_1391 rfl rfl dX12_meet_55 ?_
            refine v_iload_n (pc := 58) C dX12_meet_58 1 rfl rfl ?_
            refine v_iald (pc := 59) C (43, 0) (v := (g 43 (u).toNatClampNeg 0)) ck_43 (by (try simp only [Int32.le_iff_toInt_le, Int32.lt_iff_toInt_lt, ← Int32.toInt_inj, vp_in_iff, Int32.reduceToInt] at c_2 c_5 c_6 c_7 c_10 b_1 b_4 b_8 b_9 hu hg hf hl0 hl ⊢) <;> omega) (F_X12_isWrong (by decide)) dX12_meet_59 ?_
            refine v_aload_n (pc := 60) C dX12_meet_60 0 rfl rfl ?_
            refine v_get (pc := 61) C (40, 0) (v := .ref (A (43, 0))) ck_40 rfl 3 (by decide) inX12 wd_1391 rfl rfl dX12_meet_61 ?_
            refine v_iload_n (pc := 64) C dX12_meet_64 2 rfl rfl ?_
            refine v_iald (pc := 65) C (43, 0) (v := (g 43 (x).toNatClampNeg 0)) ck_43 (by (try simp only [Int32.le_iff_toInt_le, Int32.lt_iff_toInt_lt, ← Int32.toInt_inj, vp_in_iff, Int32.reduceToInt] at c_2 c_5 c_6 c_7 c_10 b_1 b_4 b_8 b_9 hu hg hf hl0 hl ⊢) <;> omega) (F_X12_isWrong (by decide)) dX12_meet_65 ?_
            refine v_icmp_ne (pc := 66) (tgt := 73) C dX12_meet_66 (by decide) (fun c_14 => ?_) (fun c_14 => ?_)
            · skip
              refine v_iconst (v := 0) (pc := 73) C dX12_meet_73 rfl ?_
              refine v_istore_n (lv2 := [(3, .int (0)), (0, .ref (A (40, 0))), (1, .int (u)), (2, .int (x))]) (pc := 74) C dX12_meet_74 rfl (by decide) rfl ?_
              refine v_iload_n (pc := 75) C dX12_meet_75 0 rfl rfl ?_
              refine v_if_ne (pc := 76) (tgt := 95) C dX12_meet_76 (by decide) (fun c_15 => ?_) (fun c_15 => ?_)
              · skip
                exact absurd c_15 (by decide)
              · skip
                refine v_aload_n (pc := 79) C dX12_meet_79 1 rfl rfl ?_
                refine v_iload_n (pc := 80) C dX12_meet_80 2 rfl rfl ?_
                refine v_callV (pc := 81) C (40, 0) ck_40 rfl (c_X12_isShown hG (u) (by rw [show (S_X12_isWrong g (0)) 2 0 0 = g 2 0 0 from F_X12_isWrong (by decide)]; exact hu0) (by rw [show (S_X12_isWrong g (0)) 2 0 0 = g 2 0 0 from F_X12_isWrong (by decide)]; exact hu) (by rw [show (S_X12_isWrong g (0)) 3 0 0 = g 3 0 0 from F_X12_isWrong (by decide)]; exact hg0) (by rw [show (S_X12_isWrong g (0)) 3 0 0 = g 3 0 0 from F_X12_isWrong (by decide)]; exact hg) (by rw [show (S_X12_isWrong g (0)) 4 0 0 = g 4 0 0 from F_X12_isWrong (by decide)]; exact hf0) (by rw [show (S_X12_isWrong g (0)) 4 0 0 = g 4 0 0 from F_X12_isWrong (by decide)]; exact hf) (by (try simp only [Int32.le_iff_toInt_le, Int32.lt_iff_toInt_lt, ← Int32.toInt_inj, Int32.reduceToInt] at c_2 c_5 c_6 c_7 c_10 c_14 c_15 b_1 b_4 b_8 b_9 hu hg hf hl0 hl ⊢); omega) (by (try simp only [Int32.le_iff_toInt_le, Int32.lt_iff_toInt_lt, ← Int32.toInt_inj, Int32.reduceToInt] at c_2 c_5 c_6 c_7 c_10 c_14 c_15 b_1 b_4 b_8 b_9 hu hg hf hl0 hl ⊢); omega) (by rw [show (S_X12_isWrong g (0)) 11 0 0 = g 11 0 0 from F_X12_isWrong (by decide)]; exact hl0) (by rw [show (S_X12_isWrong g (0)) 11 0 0 = g 11 0 0 from F_X12_isWrong (by decide)]; exact hl) (vM4_k (fun _ _ => F_X12_isWrong (by decide)) h4)) 1 wd_1789 wd_68 wd_1786 wd_1788 wd_59 (by decide +kernel) (by decide) (by decide) rfl ([]) rfl (Nat.le_of_ble_eq_true rfl) (by decide) dX12_meet_81 (fun _ _ _ q => q.elim) (fun v9 A9 h9 hR9 => ?_)
                obtain ⟨rfl, hA9, rfl⟩ := hR9
                obtain rfl := hA9.symm
                refine v_st (k2 := 0) (n2 := 0) (st2 := [.int ((V_X12_isShown (S_X12_isWrong g (0)) (u)))]) rfl rfl rfl ?_
                refine v_if_eq (pc := 84) (tgt := 98) C dX12_meet_84 (by decide) (fun c_16 => ?_) (fun c_16 => ?_)
                · skip
                  refine v_aload_n (pc := 98) C dX12_meet_98 1 rfl rfl ?_
                  refine v_get (pc := 99) C (40, 0) (v := .ref (A (44, 0))) ck_40 rfl 4 (by decide) inX12 wd_1392 rfl rfl dX12_meet_99 ?_
                  refine v_iload_n (pc := 102) C dX12_meet_102 2 rfl rfl ?_
                  refine v_dup2_11 (pc := 103) C dX12_meet_103 rfl rfl ?_
                  refine v_iald (pc := 104) C (44, 0) (v := (g 44 (u).toNatClampNeg 0)) ck_44 (by (try simp only [Int32.le_iff_toInt_le, Int32.lt_iff_toInt_lt, ← Int32.toInt_inj, vp_in_iff, Int32.reduceToInt] at c_2 c_5 c_6 c_7 c_10 c_14 c_15 c_16 b_1 b_4 b_8 b_9 hu hg hf hl0 hl ⊢) <;> omega) (F_X12_isWrong (by decide)) dX12_meet_104 ?_
                  refine v_iconst (v := 1) (pc := 105) C dX12_meet_105 rfl ?_
                  refine v_iadd (pc := 106) C dX12_meet_106 ?_
                  refine v_iast (pc := 107) C (44, 0) (x := ((g 44 (u).toNatClampNeg 0) + 1)) ck_44 (by (try simp only [Int32.le_iff_toInt_le, Int32.lt_iff_toInt_lt, ← Int32.toInt_inj, vp_in_iff, Int32.reduceToInt] at c_2 c_5 c_6 c_7 c_10 c_14 c_15 c_16 b_1 b_4 b_8 b_9 hu hg hf hl0 hl ⊢) <;> omega) dX12_meet_107 ?_
                  refine v_h (h2 := (wm (s3 (S_X12_isWrong g (0)) 44 (u).toNatClampNeg 0 (((g 44 (u).toNatClampNeg 0) + 1))) r)) (u_44_a) ?_
                  refine v_aload_n (pc := 108) C dX12_meet_108 1 rfl rfl ?_
                  refine v_get (pc := 109) C (40, 0) (v := .ref (A (44, 0))) ck_40 rfl 4 (by decide) inX12 wd_1392 rfl rfl dX12_meet_109 ?_
                  refine v_iload_n (pc := 112) C dX12_meet_112 3 rfl rfl ?_
                  refine v_dup2_11 (pc := 113) C dX12_meet_113 rfl rfl ?_
                  refine v_iald (pc := 114) C (44, 0) (v := ((s3 (S_X12_isWrong g (0)) 44 (u).toNatClampNeg 0 (((g 44 (u).toNatClampNeg 0) + 1))) 44 (x).toNatClampNeg 0)) ck_44 (by (try simp only [Int32.le_iff_toInt_le, Int32.lt_iff_toInt_lt, ← Int32.toInt_inj, vp_in_iff, Int32.reduceToInt] at c_2 c_5 c_6 c_7 c_10 c_14 c_15 c_16 b_1 b_4 b_8 b_9 hu hg hf hl0 hl ⊢) <;> omega) rfl dX12_meet_114 ?_
                  refine v_iconst (v := 1) (pc := 115) C dX12_meet_115 rfl ?_
                  refine v_iadd (pc := 116) C dX12_meet_116 ?_
                  refine v_iast (pc := 117) C (44, 0) (x := (((s3 (S_X12_isWrong g (0)) 44 (u).toNatClampNeg 0 (((g 44 (u).toNatClampNeg 0) + 1))) 44 (x).toNatClampNeg 0) + 1)) ck_44 (by (try simp only [Int32.le_iff_toInt_le, Int32.lt_iff_toInt_lt, ← Int32.toInt_inj, vp_in_iff, Int32.reduceToInt] at c_2 c_5 c_6 c_7 c_10 c_14 c_15 c_16 b_1 b_4 b_8 b_9 hu hg hf hl0 hl ⊢) <;> omega) dX12_meet_117 ?_
                  refine v_h (h2 := (wm (s3 (s3 (S_X12_isWrong g (0)) 44 (u).toNatClampNeg 0 (((g 44 (u).toNatClampNeg 0) + 1))) 44 (x).toNatClampNeg 0 ((((s3 (S_X12_isWrong g (0)) 44 (u).toNatClampNeg 0 (((g 44 (u).toNatClampNeg 0) + 1))) 44 (x).toNatClampNeg 0) + 1))) r)) (u_44_a) ?_
                  refine v_bipush (v := 97) (pc := 118) C dX12_meet_118 (by decide) ?_
                  exact v_zret (pc := 120) C rfl (by decide) (by decide) dX12_meet_120 ⟨(congrArg (fun q => some (Value.int q)) (by show _ = _; rw [V_X12_meet, if_neg c_2, if_neg c_5, if_neg c_6, if_pos c_10, if_neg c_14, if_pos c_16])), rfl, (congrArg (fun q => wm q r) (by show _ = _; rw [S_X12_meet, if_neg c_2, if_neg c_5, if_neg c_6, if_pos c_10, if_neg c_14, if_pos c_16]))⟩
                · skip
                  refine v_aload_n (pc := 87) C dX12_meet_87 1 rfl rfl ?_
                  refine v_iload_n (pc := 88) C dX12_meet_88 3 rfl rfl ?_
                  refine v_callV (pc := 89) C (40, 0) ck_40 rfl (c_X12_isShown hG (x) (by rw [show (S_X12_isWrong g (0)) 2 0 0 = g 2 0 0 from F_X12_isWrong (by decide)]; exact hu0) (by rw [show (S_X12_isWrong g (0)) 2 0 0 = g 2 0 0 from F_X12_isWrong (by decide)]; exact hu) (by rw [show (S_X12_isWrong g (0)) 3 0 0 = g 3 0 0 from F_X12_isWrong (by decide)]; exact hg0) (by rw [show (S_X12_isWrong g (0)) 3 0 0 = g 3 0 0 from F_X12_isWrong (by decide)]; exact hg) (by rw [show (S_X12_isWrong g (0)) 4 0 0 = g 4 0 0 from F_X12_isWrong (by decide)]; exact hf0) (by rw [show (S_X12_isWrong g (0)) 4 0 0 = g 4 0 0 from F_X12_isWrong (by decide)]; exact hf) (by (try simp only [Int32.le_iff_toInt_le, Int32.lt_iff_toInt_lt, ← Int32.toInt_inj, Int32.reduceToInt] at c_2 c_5 c_6 c_7 c_10 c_14 c_15 c_16 b_1 b_4 b_8 b_9 hu hg hf hl0 hl ⊢); omega) (by (try simp only [Int32.le_iff_toInt_le, Int32.lt_iff_toInt_lt, ← Int32.toInt_inj, Int32.reduceToInt] at c_2 c_5 c_6 c_7 c_10 c_14 c_15 c_16 b_1 b_4 b_8 b_9 hu hg hf hl0 hl ⊢); omega) (by rw [show (S_X12_isWrong g (0)) 11 0 0 = g 11 0 0 from F_X12_isWrong (by decide)]; exact hl0) (by rw [show (S_X12_isWrong g (0)) 11 0 0 = g 11 0 0 from F_X12_isWrong (by decide)]; exact hl) (vM4_k (fun _ _ => F_X12_isWrong (by decide)) h4)) 1 wd_1789 wd_68 wd_1786 wd_1788 wd_59 (by decide +kernel) (by decide) (by decide) rfl ([]) rfl (Nat.le_of_ble_eq_true rfl) (by decide) dX12_meet_89 (fun _ _ _ q => q.elim) (fun v9 A9 h9 hR9 => ?_)
                  obtain ⟨rfl, hA9, rfl⟩ := hR9
                  obtain rfl := hA9.symm
                  refine v_st (k2 := 0) (n2 := 0) (st2 := [.int ((V_X12_isShown (S_X12_isWrong g (0)) (x)))]) rfl rfl rfl ?_
                  refine v_if_eq (pc := 92) (tgt := 98) C dX12_meet_92 (by decide) (fun c_17 => ?_) (fun c_17 => ?_)
                  · skip
                    refine v_aload_n (pc := 98) C dX12_meet_98 1 rfl rfl ?_
                    refine v_get (pc := 99) C (40, 0) (v := .ref (A (44, 0))) ck_40 rfl 4 (by decide) inX12 wd_1392 rfl rfl dX12_meet_99 ?_
                    refine v_iload_n (pc := 102) C dX12_meet_102 2 rfl rfl ?_
                    refine v_dup2_11 (pc := 103) C dX12_meet_103 rfl rfl ?_
                    refine v_iald (pc := 104) C (44, 0) (v := (g 44 (u).toNatClampNeg 0)) ck_44 (by (try simp only [Int32.le_iff_toInt_le, Int32.lt_iff_toInt_lt, ← Int32.toInt_inj, vp_in_iff, Int32.reduceToInt] at c_2 c_5 c_6 c_7 c_10 c_14 c_15 c_16 c_17 b_1 b_4 b_8 b_9 hu hg hf hl0 hl ⊢) <;> omega) (F_X12_isWrong (by decide)) dX12_meet_104 ?_
                    refine v_iconst (v := 1) (pc := 105) C dX12_meet_105 rfl ?_
                    refine v_iadd (pc := 106) C dX12_meet_106 ?_
                    refine v_iast (pc := 107) C (44, 0) (x := ((g 44 (u).toNatClampNeg 0) + 1)) ck_44 (by (try simp only [Int32.le_iff_toInt_le, Int32.lt_iff_toInt_lt, ← Int32.toInt_inj, vp_in_iff, Int32.reduceToInt] at c_2 c_5 c_6 c_7 c_10 c_14 c_15 c_16 c_17 b_1 b_4 b_8 b_9 hu hg hf hl0 hl ⊢) <;> omega) dX12_meet_107 ?_
                    refine v_h (h2 := (wm (s3 (S_X12_isWrong g (0)) 44 (u).toNatClampNeg 0 (((g 44 (u).toNatClampNeg 0) + 1))) r)) (u_44_a) ?_
                    refine v_aload_n (pc := 108) C dX12_meet_108 1 rfl rfl ?_
                    refine v_get (pc := 109) C (40, 0) (v := .ref (A (44, 0))) ck_40 rfl 4 (by decide) inX12 wd_1392 rfl rfl dX12_meet_109 ?_
                    refine v_iload_n (pc := 112) C dX12_meet_112 3 rfl rfl ?_
                    refine v_dup2_11 (pc := 113) C dX12_meet_113 rfl rfl ?_
                    refine v_iald (pc := 114) C (44, 0) (v := ((s3 (S_X12_isWrong g (0)) 44 (u).toNatClampNeg 0 (((g 44 (u).toNatClampNeg 0) + 1))) 44 (x).toNatClampNeg 0)) ck_44 (by (try simp only [Int32.le_iff_toInt_le, Int32.lt_iff_toInt_lt, ← Int32.toInt_inj, vp_in_iff, Int32.reduceToInt] at c_2 c_5 c_6 c_7 c_10 c_14 c_15 c_16 c_17 b_1 b_4 b_8 b_9 hu hg hf hl0 hl ⊢) <;> omega) rfl dX12_meet_114 ?_
                    refine v_iconst (v := 1) (pc := 115) C dX12_meet_115 rfl ?_
                    refine v_iadd (pc := 116) C dX12_meet_116 ?_
                    refine v_iast (pc := 117) C (44, 0) (x := (((s3 (S_X12_isWrong g (0)) 44 (u).toNatClampNeg 0 (((g 44 (u).toNatClampNeg 0) + 1))) 44 (x).toNatClampNeg 0) + 1)) ck_44 (by (try simp only [Int32.le_iff_toInt_le, Int32.lt_iff_toInt_lt, ← Int32.toInt_inj, vp_in_iff, Int32.reduceToInt] at c_2 c_5 c_6 c_7 c_10 c_14 c_15 c_16 c_17 b_1 b_4 b_8 b_9 hu hg hf hl0 hl ⊢) <;> omega) dX12_meet_117 ?_
                    refine v_h (h2 := (wm (s3 (s3 (S_X12_isWrong g (0)) 44 (u).toNatClampNeg 0 (((g 44 (u).toNatClampNeg 0) + 1))) 44 (x).toNatClampNeg 0 ((((s3 (S_X12_isWrong g (0)) 44 (u).toNatClampNeg 0 (((g 44 (u).toNatClampNeg 0) + 1))) 44 (x).toNatClampNeg 0) + 1))) r)) (u_44_a) ?_
                    refine v_bipush (v := 97) (pc := 118) C dX12_meet_118 (by decide) ?_
                    exact v_zret (pc := 120) C rfl (by decide) (by decide) dX12_meet_120 ⟨(congrArg (fun q => some (Value.int q)) (by show _ = _; rw [V_X12_meet, if_neg c_2, if_neg c_5, if_neg c_6, if_pos c_10, if_neg c_14, if_neg c_16, if_pos c_17])), rfl, (congrArg (fun q => wm q r) (by show _ = _; rw [S_X12_meet, if_neg c_2, if_neg c_5, if_neg c_6, if_pos c_10, if_neg c_14, if_neg c_16, if_pos c_17]))⟩
                  · skip
                    refine v_bipush (v := 107) (pc := 95) C dX12_meet_95 (by decide) ?_
                    exact v_zret (pc := 97) C rfl (by decide) (by decide) dX12_meet_97 ⟨(congrArg (fun q => some (Value.int q)) (by show _ = _; rw [V_X12_meet, if_neg c_2, if_neg c_5, if_neg c_6, if_pos c_10, if_neg c_14, if_neg c_16, if_neg c_17])), rfl, (congrArg (fun q => wm q r) (by show _ = _; rw [S_X12_meet, if_neg c_2, if_neg c_5, if_neg c_6, if_pos c_10, if_neg c_14, if_neg c_16, if_neg c_17]))⟩
            · skip
              refine v_iconst (v := 1) (pc := 69) C dX12_meet_69 rfl ?_
              refine v_goto (tgt := 74) (pc := 70) C dX12_meet_70 (by decide) ?_
              refine v_istore_n (lv2 := [(3, .int (1)), (0, .ref (A (40, 0))), (1, .int (u)), (2, .int (x))]) (pc := 74) C dX12_meet_74 rfl (by decide) rfl ?_
              refine v_iload_n (pc := 75) C dX12_meet_75 0 rfl rfl ?_
              refine v_if_ne (pc := 76) (tgt := 95) C dX12_meet_76 (by decide) (fun c_18 => ?_) (fun c_18 => ?_)
              · skip
                refine v_bipush (v := 107) (pc := 95) C dX12_meet_95 (by decide) ?_
                exact v_zret (pc := 97) C rfl (by decide) (by decide) dX12_meet_97 ⟨(congrArg (fun q => some (Value.int q)) (by show _ = _; rw [V_X12_meet, if_neg c_2, if_neg c_5, if_neg c_6, if_pos c_10, if_pos c_14])), rfl, (congrArg (fun q => wm q r) (by show _ = _; rw [S_X12_meet, if_neg c_2, if_neg c_5, if_neg c_6, if_pos c_10, if_pos c_14]))⟩
              · skip
                exact absurd c_18 (by decide)
        · skip
          exact absurd c_7 (fun q9 => q9 ((show (0 : Int32) = 0 from rfl)))
      · skip
        refine v_iconst (v := 2) (pc := 26) C dX12_meet_26 rfl ?_
        refine v_goto (tgt := 31) (pc := 27) C dX12_meet_27 (by decide) ?_
        refine v_callV (pc := 31) C (40, 0) ck_40 rfl (c_X12_isWrong hG (2) ) 1 wd_1531 wd_68 wd_1528 wd_1530 wd_35 (by decide +kernel) (by decide) (by decide) rfl ([]) rfl (Nat.le_of_ble_eq_true rfl) (by decide) dX12_meet_31 (fun _ _ _ q => q.elim) (fun v9 A9 h9 hR9 => ?_)
        obtain ⟨rfl, hA9, rfl⟩ := hR9
        obtain rfl := hA9.symm
        refine v_st (k2 := 0) (n2 := 0) (st2 := [.int ((V_X12_isWrong g (2)))]) rfl rfl rfl ?_
        refine v_if_eq (pc := 34) (tgt := 39) C dX12_meet_34 (by decide) (fun c_19 => ?_) (fun c_19 => ?_)
        · skip
          exact absurd c_19 (fun q9 => ((show ¬ (1 : Int32) = 0 from by decide)) q9)
        · skip
          refine v_iconst (v := 0) (pc := 37) C dX12_meet_37 rfl ?_
          exact v_zret (pc := 38) C rfl (by decide) (by decide) dX12_meet_38 ⟨(congrArg (fun q => some (Value.int q)) (by show _ = _; rw [V_X12_meet, if_neg c_2, if_neg c_5, if_pos c_6])), rfl, (congrArg (fun q => wm q r) (by show _ = _; rw [S_X12_meet, if_neg c_2, if_neg c_5, if_pos c_6]))⟩
    · skip
      refine v_iconst (v := 1) (pc := 17) C dX12_meet_17 rfl ?_
      refine v_goto (tgt := 31) (pc := 18) C dX12_meet_18 (by decide) ?_
      refine v_callV (pc := 31) C (40, 0) ck_40 rfl (c_X12_isWrong hG (1) ) 1 wd_1531 wd_68 wd_1528 wd_1530 wd_35 (by decide +kernel) (by decide) (by decide) rfl ([]) rfl (Nat.le_of_ble_eq_true rfl) (by decide) dX12_meet_31 (fun _ _ _ q => q.elim) (fun v9 A9 h9 hR9 => ?_)
      obtain ⟨rfl, hA9, rfl⟩ := hR9
      obtain rfl := hA9.symm
      refine v_st (k2 := 0) (n2 := 0) (st2 := [.int ((V_X12_isWrong g (1)))]) rfl rfl rfl ?_
      refine v_if_eq (pc := 34) (tgt := 39) C dX12_meet_34 (by decide) (fun c_20 => ?_) (fun c_20 => ?_)
      · skip
        exact absurd c_20 (fun q9 => ((show ¬ (1 : Int32) = 0 from by decide)) q9)
      · skip
        refine v_iconst (v := 0) (pc := 37) C dX12_meet_37 rfl ?_
        exact v_zret (pc := 38) C rfl (by decide) (by decide) dX12_meet_38 ⟨(congrArg (fun q => some (Value.int q)) (by show _ = _; rw [V_X12_meet, if_neg c_2, if_pos c_5])), rfl, (congrArg (fun q => wm q r) (by show _ = _; rw [S_X12_meet, if_neg c_2, if_pos c_5]))⟩
