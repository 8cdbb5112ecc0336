def VL_X8_slotFor_15 (g : vS) (nm : vN) (L : Nat) (F : Nat → Int32) (x : Int32) : Nat → Nat → Int32
  | 0, _ => 0
  | n + 1, i_15 => (if nI (L) ≤ nI i_15 then -1 else (if (((x ^^^ ((x).toUInt32 >>> ((16 : Int32).toUInt32 &&& Int32.toUInt32 31)).toInt32) + nI i_15) &&& (nI (L) - 1)) < 0 then (VL_X8_slotFor_15 g nm L F x n (i_15 + 1)) else (if nI (L) ≤ (((x ^^^ ((x).toUInt32 >>> ((16 : Int32).toUInt32 &&& Int32.toUInt32 31)).toInt32) + nI i_15) &&& (nI (L) - 1)) then (VL_X8_slotFor_15 g nm L F x n (i_15 + 1)) else (if (F ((((x ^^^ ((x).toUInt32 >>> ((16 : Int32).toUInt32 &&& Int32.toUInt32 31)).toInt32) + nI i_15) &&& (nI (L) - 1))).toNatClampNeg) = 0 then (((x ^^^ ((x).toUInt32 >>> ((16 : Int32).toUInt32 &&& Int32.toUInt32 31)).toInt32) + nI i_15) &&& (nI (L) - 1)) else (if (F ((((x ^^^ ((x).toUInt32 >>> ((16 : Int32).toUInt32 &&& Int32.toUInt32 31)).toInt32) + nI i_15) &&& (nI (L) - 1))).toNatClampNeg) = x then (((x ^^^ ((x).toUInt32 >>> ((16 : Int32).toUInt32 &&& Int32.toUInt32 31)).toInt32) + nI i_15) &&& (nI (L) - 1)) else (VL_X8_slotFor_15 g nm L F x n (i_15 + 1)))))))
def V_X8_slotFor (g : vS) (nm : vN) (L : Nat) (F : Nat → Int32) (x : Int32) : Int32 := (VL_X8_slotFor_15 g nm L F x (L + 1) 0)
set_option maxHeartbeats 4000000 in
set_option maxRecDepth 100000 in
theorem c_X8_slotFor {G : vG} (hG : G.1.stackTraces = false) {A : vN → Nat} {h : vH} (g : vS) (nm : vN) (L : Nat) (F : Nat → Int32) (x : Int32) (hc : h nm = some (vI L F)) (hL : (nI L).toInt = (L : Int)) (hL2 : L ≤ 1073741824) : vCt G yX8_slotFor cX8_slotFor 6 (some .int) 0 [.ref (A nm), .int (x)] A h (fun v A2 h2 => v = some (.int (V_X8_slotFor g nm L F x)) ∧ A2 = A ∧ h2 = h) (vNoX) 0 0 := by
  refine v_of hG (by decide +kernel) (Nat.le_of_ble_eq_true rfl) (lv := [(0, .ref (A nm)), (1, .int (x))]) rfl (fun X C hnx => ?_)
  have C : vC G X cX8_slotFor 6 RX8 (some .int) "slotFor" 0 0 0 := C
  refine v_aload_n (pc := 0) C dX8_slotFor_0 0 rfl rfl ?_
  refine v_alen (pc := 1) C nm (v := nI (L)) hc rfl rfl dX8_slotFor_1 ?_
  refine v_iconst (v := 1) (pc := 2) C dX8_slotFor_2 rfl ?_
  refine v_isub (pc := 3) C dX8_slotFor_3 ?_
  refine v_istore_n (lv2 := [(2, .int ((nI (L) - 1))), (0, .ref (A nm)), (1, .int (x))]) (pc := 4) C dX8_slotFor_4 rfl (by decide) rfl ?_
  refine v_iload_n (pc := 5) C dX8_slotFor_5 2 rfl rfl ?_
  refine v_iload_n (pc := 6) C dX8_slotFor_6 2 rfl rfl ?_
  refine v_bipush (v := 16) (pc := 7) C dX8_slotFor_7 (by decide) ?_
  refine v_iushr (pc := 9) C dX8_slotFor_9 rfl ?_
  refine v_ixor (pc := 10) C dX8_slotFor_10 ?_
  refine v_istore_n (lv2 := [(3, .int ((x ^^^ ((x).toUInt32 >>> ((16 : Int32).toUInt32 &&& Int32.toUInt32 31)).toInt32))), (2, .int ((nI (L) - 1))), (0, .ref (A nm)), (1, .int (x))]) (pc := 11) C dX8_slotFor_11 rfl (by decide) rfl ?_
  refine v_iconst (v := 0) (pc := 12) C dX8_slotFor_12 rfl ?_
  refine v_istore (lv2 := [(4, .int (0)), (3, .int ((x ^^^ ((x).toUInt32 >>> ((16 : Int32).toUInt32 &&& Int32.toUInt32 31)).toInt32))), (2, .int ((nI (L) - 1))), (0, .ref (A nm)), (1, .int (x))]) (pc := 13) C dX8_slotFor_13 (by decide) rfl ?_
  have L_15 : ∀ (n : Nat) (i_15 : Nat), i_15 ≤ L → L + 1 ≤ i_15 + n → (V_X8_slotFor g nm L F x) = VL_X8_slotFor_15 g nm L F x n i_15 → V G 6 X A h 0 0 (vM G X (fun v A2 h2 => v = some (.int (V_X8_slotFor g nm L F x)) ∧ A2 = A ∧ h2 = h) (vNoX) 0 0) 15 [(4, .int (nI i_15)), (3, .int ((x ^^^ ((x).toUInt32 >>> ((16 : Int32).toUInt32 &&& Int32.toUInt32 31)).toInt32))), (2, .int ((nI (L) - 1))), (0, .ref (A nm)), (1, .int (x))] [] := by
    intro n
    induction n with
    | zero => intro i_15 hi_15 hc_15 eV_15; exact absurd hc_15 (by omega)
    | succ n ih =>
      intro i_15 hi_15 hc_15 eV_15
      have hq_15 : (nI i_15).toInt = (i_15 : Int) := nI_toInt (by omega)
      have hr_15 : (nI (i_15 + 1)).toInt = ((i_15 + 1 : Nat) : Int) := nI_toInt (by omega)
      refine v_iload (pc := 15) C dX8_slotFor_15 0 rfl ?_
      refine v_aload_n (pc := 17) C dX8_slotFor_17 3 rfl rfl ?_
      refine v_alen (pc := 18) C nm (v := nI (L)) hc rfl rfl dX8_slotFor_18 ?_
      refine v_icmp_ge (pc := 19) (tgt := 66) C dX8_slotFor_19 (by decide) (fun c_1 => ?_) (fun c_1 => ?_)
      · skip
        refine v_iconst (v := -1) (pc := 66) C dX8_slotFor_66 rfl ?_
        exact v_iret (pc := 67) C (by decide) (by decide) dX8_slotFor_67 ⟨(congrArg (fun q => some (Value.int q)) (by show _ = _; rw [eV_15, VL_X8_slotFor_15, if_pos c_1])), rfl, rfl⟩
      · skip
        refine v_iload_n (pc := 22) C dX8_slotFor_22 1 rfl rfl ?_
        refine v_iload (pc := 23) C dX8_slotFor_23 0 rfl ?_
        refine v_iadd (pc := 25) C dX8_slotFor_25 ?_
        refine v_iload_n (pc := 26) C dX8_slotFor_26 2 rfl rfl ?_
        refine v_iand (pc := 27) C dX8_slotFor_27 ?_
        refine v_istore (lv2 := [(5, .int ((((x ^^^ ((x).toUInt32 >>> ((16 : Int32).toUInt32 &&& Int32.toUInt32 31)).toInt32) + nI i_15) &&& (nI (L) - 1)))), (4, .int (nI i_15)), (3, .int ((x ^^^ ((x).toUInt32 >>> ((16 : Int32).toUInt32 &&& Int32.toUInt32 31)).toInt32))), (2, .int ((nI (L) - 1))), (0, .ref (A nm)), (1, .int (x))]) (pc := 28) C dX8_slotFor_28 (by decide) rfl ?_
        refine v_iload (pc := 30) C dX8_slotFor_30 0 rfl ?_
        refine v_if_lt (pc := 32) (tgt := 60) C dX8_slotFor_32 (by decide) (fun c_2 => ?_) (fun c_2 => ?_)
        · skip
          refine v_iinc (v := nI (i_15 + 1)) (lv2 := [(4, .int (nI (i_15 + 1))), (5, .int ((((x ^^^ ((x).toUInt32 >>> ((16 : Int32).toUInt32 &&& Int32.toUInt32 31)).toInt32) + nI i_15) &&& (nI (L) - 1)))), (3, .int ((x ^^^ ((x).toUInt32 >>> ((16 : Int32).toUInt32 &&& Int32.toUInt32 31)).toInt32))), (2, .int ((nI (L) - 1))), (0, .ref (A nm)), (1, .int (x))]) (pc := 60) C dX8_slotFor_60 1 rfl (nI_1 _) (by decide) rfl ?_
          refine v_goto (tgt := 15) (pc := 63) C dX8_slotFor_63 (by decide) ?_
          refine v_lv (lv2 := [(4, .int (nI (i_15 + 1))), (3, .int ((x ^^^ ((x).toUInt32 >>> ((16 : Int32).toUInt32 &&& Int32.toUInt32 31)).toInt32))), (2, .int ((nI (L) - 1))), (0, .ref (A nm)), (1, .int (x))]) [0, 2, 3, 4, 5] rfl ?_
          exact ih (i_15 + 1) (by (try simp only [Int32.le_iff_toInt_le, Int32.lt_iff_toInt_lt, ← Int32.toInt_inj, vp_in_iff, Int32.reduceToInt] at c_1 c_2 hq_15 hr_15 hL ⊢) <;> omega) (by omega)  (by rw [eV_15, VL_X8_slotFor_15, if_neg c_1, if_pos c_2])
        · skip
          refine v_iload (pc := 35) C dX8_slotFor_35 0 rfl ?_
          refine v_aload_n (pc := 37) C dX8_slotFor_37 4 rfl rfl ?_
          refine v_alen (pc := 38) C nm (v := nI (L)) hc rfl rfl dX8_slotFor_38 ?_
          refine v_icmp_ge (pc := 39) (tgt := 60) C dX8_slotFor_39 (by decide) (fun c_3 => ?_) (fun c_3 => ?_)
          · skip
            refine v_iinc (v := nI (i_15 + 1)) (lv2 := [(4, .int (nI (i_15 + 1))), (5, .int ((((x ^^^ ((x).toUInt32 >>> ((16 : Int32).toUInt32 &&& Int32.toUInt32 31)).toInt32) + nI i_15) &&& (nI (L) - 1)))), (3, .int ((x ^^^ ((x).toUInt32 >>> ((16 : Int32).toUInt32 &&& Int32.toUInt32 31)).toInt32))), (2, .int ((nI (L) - 1))), (0, .ref (A nm)), (1, .int (x))]) (pc := 60) C dX8_slotFor_60 1 rfl (nI_1 _) (by decide) rfl ?_
            refine v_goto (tgt := 15) (pc := 63) C dX8_slotFor_63 (by decide) ?_
            refine v_lv (lv2 := [(4, .int (nI (i_15 + 1))), (3, .int ((x ^^^ ((x).toUInt32 >>> ((16 : Int32).toUInt32 &&& Int32.toUInt32 31)).toInt32))), (2, .int ((nI (L) - 1))), (0, .ref (A nm)), (1, .int (x))]) [0, 2, 3, 4, 5] rfl ?_
            exact ih (i_15 + 1) (by (try simp only [Int32.le_iff_toInt_le, Int32.lt_iff_toInt_lt, ← Int32.toInt_inj, vp_in_iff, Int32.reduceToInt] at c_1 c_2 c_3 hq_15 hr_15 hL ⊢) <;> omega) (by omega)  (by rw [eV_15, VL_X8_slotFor_15, if_neg c_1, if_neg c_2, if_pos c_3])
          · skip
            refine v_aload_n (pc := 42) C dX8_slotFor_42 4 rfl rfl ?_
            refine v_iload (pc := 43) C dX8_slotFor_43 0 rfl ?_
            refine v_iald (pc := 45) C nm (v := (F ((((x ^^^ ((x).toUInt32 >>> ((16 : Int32).toUInt32 &&& Int32.toUInt32 31)).toInt32) + nI i_15) &&& (nI (L) - 1))).toNatClampNeg)) hc (by (try simp only [Int32.le_iff_toInt_le, Int32.lt_iff_toInt_lt, ← Int32.toInt_inj, vp_in_iff, Int32.reduceToInt] at c_1 c_2 c_3 hq_15 hr_15 hL ⊢) <;> omega) rfl dX8_slotFor_45 ?_
            refine v_if_eq (pc := 46) (tgt := 57) C dX8_slotFor_46 (by decide) (fun c_4 => ?_) (fun c_4 => ?_)
            · skip
              refine v_iload (pc := 57) C dX8_slotFor_57 0 rfl ?_
              exact v_iret (pc := 59) C (by decide) (by decide) dX8_slotFor_59 ⟨(congrArg (fun q => some (Value.int q)) (by show _ = _; rw [eV_15, VL_X8_slotFor_15, if_neg c_1, if_neg c_2, if_neg c_3, if_pos c_4])), rfl, rfl⟩
            · skip
              refine v_aload_n (pc := 49) C dX8_slotFor_49 4 rfl rfl ?_
              refine v_iload (pc := 50) C dX8_slotFor_50 0 rfl ?_
              refine v_iald (pc := 52) C nm (v := (F ((((x ^^^ ((x).toUInt32 >>> ((16 : Int32).toUInt32 &&& Int32.toUInt32 31)).toInt32) + nI i_15) &&& (nI (L) - 1))).toNatClampNeg)) hc (by (try simp only [Int32.le_iff_toInt_le, Int32.lt_iff_toInt_lt, ← Int32.toInt_inj, vp_in_iff, Int32.reduceToInt] at c_1 c_2 c_3 c_4 hq_15 hr_15 hL ⊢) <;> omega) rfl dX8_slotFor_52 ?_
              refine v_iload_n (pc := 53) C dX8_slotFor_53 5 rfl rfl ?_
              refine v_icmp_ne (pc := 54) (tgt := 60) C dX8_slotFor_54 (by decide) (fun c_5 => ?_) (fun c_5 => ?_)
              · skip
                refine v_iinc (v := nI (i_15 + 1)) (lv2 := [(4, .int (nI (i_15 + 1))), (5, .int ((((x ^^^ ((x).toUInt32 >>> ((16 : Int32).toUInt32 &&& Int32.toUInt32 31)).toInt32) + nI i_15) &&& (nI (L) - 1)))), (3, .int ((x ^^^ ((x).toUInt32 >>> ((16 : Int32).toUInt32 &&& Int32.toUInt32 31)).toInt32))), (2, .int ((nI (L) - 1))), (0, .ref (A nm)), (1, .int (x))]) (pc := 60) C dX8_slotFor_60 1 rfl (nI_1 _) (by decide) rfl ?_
                refine v_goto (tgt := 15) (pc := 63) C dX8_slotFor_63 (by decide) ?_
                refine v_lv (lv2 := [(4, .int (nI (i_15 + 1))), (3, .int ((x ^^^ ((x).toUInt32 >>> ((16 : Int32).toUInt32 &&& Int32.toUInt32 31)).toInt32))), (2, .int ((nI (L) - 1))), (0, .ref (A nm)), (1, .int (x))]) [0, 2, 3, 4, 5] rfl ?_
                exact ih (i_15 + 1) (by (try simp only [Int32.le_iff_toInt_le, Int32.lt_iff_toInt_lt, ← Int32.toInt_inj, vp_in_iff, Int32.reduceToInt] at c_1 c_2 c_3 c_4 c_5 hq_15 hr_15 hL ⊢) <;> omega) (by omega)  (by rw [eV_15, VL_X8_slotFor_15, if_neg c_1, if_neg c_2, if_neg c_3, if_neg c_4, if_neg c_5])
              · skip
                refine v_iload (pc := 57) C dX8_slotFor_57 0 rfl ?_
                exact v_iret (pc := 59) C (by decide) (by decide) dX8_slotFor_59 ⟨(congrArg (fun q => some (Value.int q)) (by show _ = _; rw [eV_15, VL_X8_slotFor_15, if_neg c_1, if_neg c_2, if_neg c_3, if_neg c_4, if_pos c_5])), rfl, rfl⟩
  exact L_15 (L + 1) 0 (by omega) (by omega)  (by rw [V_X8_slotFor])
