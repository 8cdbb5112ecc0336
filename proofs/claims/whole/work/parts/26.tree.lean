
theorem i32_mulr2 {x : Int32} (h0 : 0 ≤ x.toInt) (h : x.toInt ≤ 1000000) : (x * 2).toInt = 2 * x.toInt := by
  rw [Int32.toInt_mul, show (2 : Int32).toInt = 2 from by decide]
  rw [Int.mul_comm]
  apply Int.bmod_eq_of_le <;> omega
theorem i32_sub {x y : Int32} (hx : 0 ≤ x.toInt) (hy : 0 ≤ y.toInt) : (x - y).toInt = x.toInt - y.toInt := by
  have h1 := Int32.toInt_lt x
  have h2 := Int32.toInt_lt y
  rw [Int32.toInt_sub]
  apply Int.bmod_eq_of_le <;> omega
theorem tn_half {x k : Int32} (h : ¬ x ≤ 2 * k) (h1 : 1 ≤ k.toInt) (hx : x.toInt ≤ 300) (hk : k.toInt ≤ 600) : (x - k * 2).toNatClampNeg + 1 ≤ (x - k).toNatClampNeg ∧ 1 ≤ (k * 2).toInt ∧ (k * 2).toInt ≤ 600 := by
  rw [Int32.le_iff_toInt_le, i32_two (by omega) (by omega)] at h
  have e := i32_mulr2 (x := k) (by omega) (by omega)
  have e1 : (x - k * 2).toInt = x.toInt - 2 * k.toInt := by rw [i32_sub (by omega) (by omega), e]
  have e2 : (x - k).toInt = x.toInt - k.toInt := i32_sub (by omega) (by omega)
  refine ⟨?_, by omega, by omega⟩
  show (x - k * 2).toInt.toNat + 1 ≤ (x - k).toInt.toNat
  omega
theorem tn_half0 {x : Int32} (h0 : 0 ≤ x.toInt) (hx : x.toInt ≤ 300) : (x - 1).toNatClampNeg + 1 ≤ 301 := by
  show (x - 1).toInt.toNat + 1 ≤ 301
  rw [i32_sub h0 (by decide), show (1 : Int32).toInt = 1 from by decide]
  omega

def VL_X12_half_2 (g : vS) (x : Int32) : Nat → Int32 → Int32
  | 0, _ => 0
  | n + 1, x_2_1 => (if x ≤ (2 * x_2_1) then x_2_1 else (VL_X12_half_2 g x n ((x_2_1 * 2))))
def V_X12_half (g : vS) (x : Int32) : Int32 := (VL_X12_half_2 g x (300 + 1) (1))
set_option maxHeartbeats 4000000 in
set_option maxRecDepth 100000 in
theorem c_X12_half {G : vG} (hG : G.1.stackTraces = false) {A : vN → Nat} {g : vS} {r : vH} (x : Int32) (hx0 : 0 ≤ x.toInt) (hx : x.toInt ≤ 300) : vCt G yX12_half cX12_half 2 (some .int) 0 [.int (x)] A (wm g r) (fun v A2 h2 => v = some (.int (V_X12_half g x)) ∧ A2 = A ∧ h2 = wm g r) (vNoX) 0 0 := by
  refine v_of hG (by decide +kernel) (Nat.le_of_ble_eq_true rfl) (lv := [(0, .int (x))]) rfl (fun X C hnx => ?_)
  have C : vC G X cX12_half 2 RX12 (some .int) "half" 0 0 0 := C
  refine v_iconst (v := 1) (pc := 0) C dX12_half_0 rfl ?_
  refine v_istore_n (lv2 := [(1, .int (1)), (0, .int (x))]) (pc := 1) C dX12_half_1 rfl (by decide) rfl ?_
  have L_2 : ∀ (n : Nat) (x_2_1 : Int32), (x - x_2_1).toNatClampNeg + 1 ≤ n → 1 ≤ (x_2_1).toInt ∧ (x_2_1).toInt ≤ 600 → (V_X12_half g x) = VL_X12_half_2 g x n x_2_1 → V G 2 X A (wm g r) 0 0 (vM G X (fun v A2 h2 => v = some (.int (V_X12_half g x)) ∧ A2 = A ∧ h2 = wm g r) (vNoX) 0 0) 2 [(1, .int (x_2_1)), (0, .int (x))] [] := by
    intro n
    induction n with
    | zero => intro x_2_1 hc_2 hk_2 eV_2; exact absurd hc_2 (by omega)
    | succ n ih =>
      intro x_2_1 hc_2 hk_2 eV_2
      refine v_iconst (v := 2) (pc := 2) C dX12_half_2 rfl ?_
      refine v_iload_n (pc := 3) C dX12_half_3 0 rfl rfl ?_
      refine v_imul (pc := 4) C dX12_half_4 ?_
      refine v_iload_n (pc := 5) C dX12_half_5 1 rfl rfl ?_
      refine v_icmp_ge (pc := 6) (tgt := 16) C dX12_half_6 (by decide) (fun c_1 => ?_) (fun c_1 => ?_)
      · skip
        refine v_iload_n (pc := 16) C dX12_half_16 0 rfl rfl ?_
        exact v_iret (pc := 17) C (by decide) (by decide) dX12_half_17 ⟨(congrArg (fun q => some (Value.int q)) (by show _ = _; rw [eV_2, VL_X12_half_2, if_pos c_1])), rfl, rfl⟩
      · skip
        refine v_iload_n (pc := 9) C dX12_half_9 0 rfl rfl ?_
        refine v_iconst (v := 2) (pc := 10) C dX12_half_10 rfl ?_
        refine v_imul (pc := 11) C dX12_half_11 ?_
        refine v_istore_n (lv2 := [(1, .int ((x_2_1 * 2))), (0, .int (x))]) (pc := 12) C dX12_half_12 rfl (by decide) rfl ?_
        refine v_goto (tgt := 2) (pc := 13) C dX12_half_13 (by decide) ?_
        refine v_lv (lv2 := [(1, .int ((x_2_1 * 2))), (0, .int (x))]) [0, 1] rfl ?_
        exact ih ((x_2_1 * 2))  (Nat.le_of_add_le_add_right (Nat.le_trans (Nat.add_le_add_right (tn_half c_1 hk_2.1 hx hk_2.2).1 1) hc_2))  (tn_half c_1 hk_2.1 hx hk_2.2).2 (by rw [eV_2, VL_X12_half_2, if_neg c_1])
  exact L_2 (300 + 1) (1)  (tn_half0 hx0 hx)  (by decide) (by rw [V_X12_half])
