def V_X12_cannotWrite (g : vS) (u : Int32) (x : Int32) (y : Int32) : Int32 := (if (g 52 ((g 55 (x).toNatClampNeg 0)).toNatClampNeg (u).toNatClampNeg) = 0 then 3 else (if (g 63 (x).toNatClampNeg (y).toNatClampNeg) = 0 then (if (V_X12_partsIn g ((g 55 (x).toNatClampNeg 0))) < (g 49 ((g 55 (x).toNatClampNeg 0)).toNatClampNeg 0) then (if (g 47 (u).toNatClampNeg 0) = 0 then (if (g 68 (x).toNatClampNeg 0) = 0 then (if (V_X12_isSpoiled g (x)) = 0 then (if (V_X12_isFull g) = 0 then 0 else 4) else 4) else 4) else 4) else 4) else (if (g 47 (u).toNatClampNeg 0) = 0 then (if (g 68 (x).toNatClampNeg 0) = 0 then (if (V_X12_isSpoiled g (x)) = 0 then (if (V_X12_isFull g) = 0 then 0 else 4) else 4) else 4) else 4)))
set_option maxHeartbeats 4000000 in
set_option maxRecDepth 100000 in
theorem c_X12_cannotWrite {G : vG} (hG : G.1.stackTraces = false) {A : vN → Nat} {g : vS} {r : vH} (u : Int32) (x : Int32) (y : Int32) (hu0 : 0 ≤ (g 2 0 0).toInt) (hu : (g 2 0 0).toInt ≤ 6) (hg0 : 0 ≤ (g 3 0 0).toInt) (hg : (g 3 0 0).toInt ≤ 5) (hf0 : 0 ≤ (g 4 0 0).toInt) (hf : (g 4 0 0).toInt ≤ 20) (u_0 : 0 ≤ (u).toInt) (u_N : (u).toInt < 6) (x_0 : 0 ≤ (x).toInt) (x_N : (x).toInt < 20) (y_0 : 0 ≤ (y).toInt) (y_N : (y).toInt < 8) (h1 : vM1 g) (h2 : vM2 g) (h3 : vM3 g) : vCt G yX12_cannotWrite cX12_cannotWrite 6 (some .int) 4 [.ref (A (40, 0)), .int (u), .int (x), .int (y)] A (wm g r) (fun v A2 h2 => v = some (.int (V_X12_cannotWrite g u x y)) ∧ A2 = A ∧ h2 = wm g r) (vNoX) 0 0 := by
  refine v_of hG (by decide +kernel) (Nat.le_of_ble_eq_true rfl) (lv := [(0, .ref (A (40, 0))), (1, .int (u)), (2, .int (x)), (3, .int (y))]) rfl (fun X C hnx => ?_)
  have C : vC G X cX12_cannotWrite 6 RX12 (some .int) "cannotWrite" 4 0 0 := C
  refine v_aload_n (pc := 0) C dX12_cannotWrite_0 0 rfl rfl ?_
  refine v_get (pc := 1) C (40, 0) (v := .ref (A (55, 0))) ck_40 rfl 15 (by decide) inX12 wd_1403 rfl rfl dX12_cannotWrite_1 ?_
  refine v_iload_n (pc := 4) C dX12_cannotWrite_4 2 rfl rfl ?_
  refine v_iald (pc := 5) C (55, 0) (v := (g 55 (x).toNatClampNeg 0)) ck_55 (by (try simp only [Int32.le_iff_toInt_le, Int32.lt_iff_toInt_lt, ← Int32.toInt_inj, vp_in_iff, Int32.reduceToInt] at hu hg hf u_0 u_N x_0 x_N y_0 y_N ⊢) <;> omega) rfl dX12_cannotWrite_5 ?_
  have b_1 := h1 (x).toNatClampNeg
  refine v_istore (lv2 := [(4, .int ((g 55 (x).toNatClampNeg 0))), (0, .ref (A (40, 0))), (1, .int (u)), (2, .int (x)), (3, .int (y))]) (pc := 6) C dX12_cannotWrite_6 (by decide) rfl ?_
  refine v_aload_n (pc := 8) C dX12_cannotWrite_8 1 rfl rfl ?_
  refine v_get (pc := 9) C (40, 0) (v := .ref (A (51, 0))) ck_40 rfl 11 (by decide) inX12 wd_1399 rfl rfl dX12_cannotWrite_9 ?_
  refine v_iload (pc := 12) C dX12_cannotWrite_12 0 rfl ?_
  refine v_aald (pc := 14) C (51, 0) ck_51 rfl rfl (by (try simp only [Int32.le_iff_toInt_le, Int32.lt_iff_toInt_lt, ← Int32.toInt_inj, vp_in_iff, Int32.reduceToInt] at b_1 hu hg hf u_0 u_N x_0 x_N y_0 y_N ⊢) <;> omega) (52, ((g 55 (x).toNatClampNeg 0)).toNatClampNeg) rfl dX12_cannotWrite_14 ?_
  refine v_iload_n (pc := 15) C dX12_cannotWrite_15 2 rfl rfl ?_
  refine v_zald (pc := 16) C (52, ((g 55 (x).toNatClampNeg 0)).toNatClampNeg) (v := (g 52 ((g 55 (x).toNatClampNeg 0)).toNatClampNeg (u).toNatClampNeg)) (ck_52 (g := g) (tn_lt (by (try simp only [Int32.le_iff_toInt_le, Int32.lt_iff_toInt_lt, ← Int32.toInt_inj, Int32.reduceToInt] at b_1 hu hg hf u_0 u_N x_0 x_N y_0 y_N ⊢); omega))) (by (try simp only [Int32.le_iff_toInt_le, Int32.lt_iff_toInt_lt, ← Int32.toInt_inj, vp_in_iff, Int32.reduceToInt] at b_1 hu hg hf u_0 u_N x_0 x_N y_0 y_N ⊢) <;> omega) rfl dX12_cannotWrite_16 ?_
  refine v_if_ne (pc := 17) (tgt := 22) C dX12_cannotWrite_17 (by decide) (fun c_2 => ?_) (fun c_2 => ?_)
  · skip
    refine v_aload_n (pc := 22) C dX12_cannotWrite_22 1 rfl rfl ?_
    refine v_get (pc := 23) C (40, 0) (v := .ref (A (62, 0))) ck_40 rfl 20 (by decide) inX12 wd_1408 rfl rfl dX12_cannotWrite_23 ?_
    refine v_iload_n (pc := 26) C dX12_cannotWrite_26 3 rfl rfl ?_
    refine v_aald (pc := 27) C (62, 0) ck_62 rfl rfl (by (try simp only [Int32.le_iff_toInt_le, Int32.lt_iff_toInt_lt, ← Int32.toInt_inj, vp_in_iff, Int32.reduceToInt] at c_2 b_1 hu hg hf u_0 u_N x_0 x_N y_0 y_N ⊢) <;> omega) (63, (x).toNatClampNeg) rfl dX12_cannotWrite_27 ?_
    refine v_iload_n (pc := 28) C dX12_cannotWrite_28 4 rfl rfl ?_
    refine v_iald (pc := 29) C (63, (x).toNatClampNeg) (v := (g 63 (x).toNatClampNeg (y).toNatClampNeg)) (ck_63 (g := g) (tn_lt (by (try simp only [Int32.le_iff_toInt_le, Int32.lt_iff_toInt_lt, ← Int32.toInt_inj, Int32.reduceToInt] at c_2 b_1 hu hg hf u_0 u_N x_0 x_N y_0 y_N ⊢); omega))) (by (try simp only [Int32.le_iff_toInt_le, Int32.lt_iff_toInt_lt, ← Int32.toInt_inj, vp_in_iff, Int32.reduceToInt] at c_2 b_1 hu hg hf u_0 u_N x_0 x_N y_0 y_N ⊢) <;> omega) rfl dX12_cannotWrite_29 ?_
    refine v_if_ne (pc := 30) (tgt := 53) C dX12_cannotWrite_30 (by decide) (fun c_3 => ?_) (fun c_3 => ?_)
    · skip
      refine v_iconst (v := 0) (pc := 53) C dX12_cannotWrite_53 rfl ?_
      refine v_istore (lv2 := [(5, .int (0)), (4, .int ((g 55 (x).toNatClampNeg 0))), (0, .ref (A (40, 0))), (1, .int (u)), (2, .int (x)), (3, .int (y))]) (pc := 54) C dX12_cannotWrite_54 (by decide) rfl ?_
      refine v_aload_n (pc := 56) C dX12_cannotWrite_56 2 rfl rfl ?_
      refine v_get (pc := 57) C (40, 0) (v := .ref (A (47, 0))) ck_40 rfl 7 (by decide) inX12 wd_1395 rfl rfl dX12_cannotWrite_57 ?_
      refine v_iload_n (pc := 60) C dX12_cannotWrite_60 3 rfl rfl ?_
      refine v_zald (pc := 61) C (47, 0) (v := (g 47 (u).toNatClampNeg 0)) ck_47 (by (try simp only [Int32.le_iff_toInt_le, Int32.lt_iff_toInt_lt, ← Int32.toInt_inj, vp_in_iff, Int32.reduceToInt] at c_2 c_3 b_1 hu hg hf u_0 u_N x_0 x_N y_0 y_N ⊢) <;> omega) rfl dX12_cannotWrite_61 ?_
      refine v_if_ne (pc := 62) (tgt := 94) C dX12_cannotWrite_62 (by decide) (fun c_4 => ?_) (fun c_4 => ?_)
      · skip
        refine v_iconst (v := 4) (pc := 94) C dX12_cannotWrite_94 rfl ?_
        refine v_goto (tgt := 99) (pc := 95) C dX12_cannotWrite_95 (by decide) ?_
        exact v_iret (pc := 99) C (by decide) (by decide) dX12_cannotWrite_99 ⟨(congrArg (fun q => some (Value.int q)) (by show _ = _; rw [V_X12_cannotWrite, if_neg c_2, if_neg c_3, if_neg c_4])), rfl, rfl⟩
      · skip
        refine v_aload_n (pc := 65) C dX12_cannotWrite_65 2 rfl rfl ?_
        refine v_get (pc := 66) C (40, 0) (v := .ref (A (68, 0))) ck_40 rfl 23 (by decide) inX12 wd_1411 rfl rfl dX12_cannotWrite_66 ?_
        refine v_iload_n (pc := 69) C dX12_cannotWrite_69 4 rfl rfl ?_
        refine v_zald (pc := 70) C (68, 0) (v := (g 68 (x).toNatClampNeg 0)) ck_68 (by (try simp only [Int32.le_iff_toInt_le, Int32.lt_iff_toInt_lt, ← Int32.toInt_inj, vp_in_iff, Int32.reduceToInt] at c_2 c_3 c_4 b_1 hu hg hf u_0 u_N x_0 x_N y_0 y_N ⊢) <;> omega) rfl dX12_cannotWrite_70 ?_
        refine v_if_ne (pc := 71) (tgt := 94) C dX12_cannotWrite_71 (by decide) (fun c_5 => ?_) (fun c_5 => ?_)
        · skip
          refine v_iconst (v := 4) (pc := 94) C dX12_cannotWrite_94 rfl ?_
          refine v_goto (tgt := 99) (pc := 95) C dX12_cannotWrite_95 (by decide) ?_
          exact v_iret (pc := 99) C (by decide) (by decide) dX12_cannotWrite_99 ⟨(congrArg (fun q => some (Value.int q)) (by show _ = _; rw [V_X12_cannotWrite, if_neg c_2, if_neg c_3, if_pos c_4, if_neg c_5])), rfl, rfl⟩
        · skip
          refine v_aload_n (pc := 74) C dX12_cannotWrite_74 2 rfl rfl ?_
          refine v_iload_n (pc := 75) C dX12_cannotWrite_75 4 rfl rfl ?_
          refine v_callV (pc := 76) C (40, 0) ck_40 rfl (c_X12_isSpoiled hG (x) hu0 hu hg0 hg hf0 hf (by (try simp only [Int32.le_iff_toInt_le, Int32.lt_iff_toInt_lt, ← Int32.toInt_inj, Int32.reduceToInt] at c_2 c_3 c_4 c_5 b_1 hu hg hf u_0 u_N x_0 x_N y_0 y_N ⊢); omega) (by (try simp only [Int32.le_iff_toInt_le, Int32.lt_iff_toInt_lt, ← Int32.toInt_inj, Int32.reduceToInt] at c_2 c_3 c_4 c_5 b_1 hu hg hf u_0 u_N x_0 x_N y_0 y_N ⊢); omega)) 1 wd_1570 wd_68 wd_1567 wd_1569 wd_40 (by decide +kernel) (by decide) (by decide) rfl ([]) rfl (Nat.le_of_ble_eq_true rfl) (by decide) dX12_cannotWrite_76 (fun _ _ _ q => q.elim) (fun v9 A9 h9 hR9 => ?_)
          obtain ⟨rfl, hA9, rfl⟩ := hR9
          obtain rfl := hA9.symm
          refine v_st (k2 := 0) (n2 := 0) (st2 := [.int ((V_X12_isSpoiled g (x)))]) rfl rfl rfl ?_
          refine v_if_ne (pc := 79) (tgt := 94) C dX12_cannotWrite_79 (by decide) (fun c_6 => ?_) (fun c_6 => ?_)
          · skip
            refine v_iconst (v := 4) (pc := 94) C dX12_cannotWrite_94 rfl ?_
            refine v_goto (tgt := 99) (pc := 95) C dX12_cannotWrite_95 (by decide) ?_
            exact v_iret (pc := 99) C (by decide) (by decide) dX12_cannotWrite_99 ⟨(congrArg (fun q => some (Value.int q)) (by show _ = _; rw [V_X12_cannotWrite, if_neg c_2, if_neg c_3, if_pos c_4, if_pos c_5, if_neg c_6])), rfl, rfl⟩
          · skip
            refine v_iload (pc := 82) C dX12_cannotWrite_82 0 rfl ?_
            refine v_if_ne (pc := 84) (tgt := 94) C dX12_cannotWrite_84 (by decide) (fun c_7 => ?_) (fun c_7 => ?_)
            · skip
              exact absurd c_7 (by decide)
            · skip
              refine v_aload_n (pc := 87) C dX12_cannotWrite_87 2 rfl rfl ?_
              refine v_callV (pc := 88) C (40, 0) ck_40 rfl (c_X12_isFull hG  ) 0 wd_1551 wd_68 wd_1548 wd_1550 wd_38 (by decide +kernel) (by decide) (by decide) rfl ([]) rfl (Nat.le_of_ble_eq_true rfl) (by decide) dX12_cannotWrite_88 (fun _ _ _ q => q.elim) (fun v9 A9 h9 hR9 => ?_)
              obtain ⟨rfl, hA9, rfl⟩ := hR9
              obtain rfl := hA9.symm
              refine v_st (k2 := 0) (n2 := 0) (st2 := [.int ((V_X12_isFull g))]) rfl rfl rfl ?_
              have b_8 := ok_isFull (g := g)
              refine v_if_eq (pc := 91) (tgt := 98) C dX12_cannotWrite_91 (by decide) (fun c_9 => ?_) (fun c_9 => ?_)
              · skip
                refine v_iconst (v := 0) (pc := 98) C dX12_cannotWrite_98 rfl ?_
                exact v_iret (pc := 99) C (by decide) (by decide) dX12_cannotWrite_99 ⟨(congrArg (fun q => some (Value.int q)) (by show _ = _; rw [V_X12_cannotWrite, if_neg c_2, if_neg c_3, if_pos c_4, if_pos c_5, if_pos c_6, if_pos c_9])), rfl, rfl⟩
              · skip
                refine v_iconst (v := 4) (pc := 94) C dX12_cannotWrite_94 rfl ?_
                refine v_goto (tgt := 99) (pc := 95) C dX12_cannotWrite_95 (by decide) ?_
                exact v_iret (pc := 99) C (by decide) (by decide) dX12_cannotWrite_99 ⟨(congrArg (fun q => some (Value.int q)) (by show _ = _; rw [V_X12_cannotWrite, if_neg c_2, if_neg c_3, if_pos c_4, if_pos c_5, if_pos c_6, if_neg c_9])), rfl, rfl⟩
    · skip
      refine v_aload_n (pc := 33) C dX12_cannotWrite_33 1 rfl rfl ?_
      refine v_iload (pc := 34) C dX12_cannotWrite_34 0 rfl ?_
      refine v_callV (pc := 36) C (40, 0) ck_40 rfl (c_X12_partsIn hG ((g 55 (x).toNatClampNeg 0)) hu0 hu hg0 hg hf0 hf) 1 wd_1624 wd_68 wd_1621 wd_1623 wd_47 (by decide +kernel) (by decide) (by decide) rfl ([]) rfl (Nat.le_of_ble_eq_true rfl) (by decide) dX12_cannotWrite_36 (fun _ _ _ q => q.elim) (fun v9 A9 h9 hR9 => ?_)
      obtain ⟨rfl, hA9, rfl⟩ := hR9
      obtain rfl := hA9.symm
      refine v_st (k2 := 0) (n2 := 0) (st2 := [.int ((V_X12_partsIn g ((g 55 (x).toNatClampNeg 0))))]) rfl rfl rfl ?_
      refine v_aload_n (pc := 39) C dX12_cannotWrite_39 1 rfl rfl ?_
      refine v_get (pc := 40) C (40, 0) (v := .ref (A (49, 0))) ck_40 rfl 9 (by decide) inX12 wd_1397 rfl rfl dX12_cannotWrite_40 ?_
      refine v_iload (pc := 43) C dX12_cannotWrite_43 0 rfl ?_
      refine v_iald (pc := 45) C (49, 0) (v := (g 49 ((g 55 (x).toNatClampNeg 0)).toNatClampNeg 0)) ck_49 (by (try simp only [Int32.le_iff_toInt_le, Int32.lt_iff_toInt_lt, ← Int32.toInt_inj, vp_in_iff, Int32.reduceToInt] at c_2 c_3 b_1 hu hg hf u_0 u_N x_0 x_N y_0 y_N ⊢) <;> omega) rfl dX12_cannotWrite_45 ?_
      refine v_icmp_lt (pc := 46) (tgt := 53) C dX12_cannotWrite_46 (by decide) (fun c_10 => ?_) (fun c_10 => ?_)
      · skip
        refine v_iconst (v := 0) (pc := 53) C dX12_cannotWrite_53 rfl ?_
        refine v_istore (lv2 := [(5, .int (0)), (4, .int ((g 55 (x).toNatClampNeg 0))), (0, .ref (A (40, 0))), (1, .int (u)), (2, .int (x)), (3, .int (y))]) (pc := 54) C dX12_cannotWrite_54 (by decide) rfl ?_
        refine v_aload_n (pc := 56) C dX12_cannotWrite_56 2 rfl rfl ?_
        refine v_get (pc := 57) C (40, 0) (v := .ref (A (47, 0))) ck_40 rfl 7 (by decide) inX12 wd_1395 rfl rfl dX12_cannotWrite_57 ?_
        refine v_iload_n (pc := 60) C dX12_cannotWrite_60 3 rfl rfl ?_
        refine v_zald (pc := 61) C (47, 0) (v := (g 47 (u).toNatClampNeg 0)) ck_47 (by (try simp only [Int32.le_iff_toInt_le, Int32.lt_iff_toInt_lt, ← Int32.toInt_inj, vp_in_iff, Int32.reduceToInt] at c_2 c_3 c_10 b_1 hu hg hf u_0 u_N x_0 x_N y_0 y_N ⊢) <;> omega) rfl dX12_cannotWrite_61 ?_
        refine v_if_ne (pc := 62) (tgt := 94) C dX12_cannotWrite_62 (by decide) (fun c_11 => ?_) (fun c_11 => ?_)
        · skip
          refine v_iconst (v := 4) (pc := 94) C dX12_cannotWrite_94 rfl ?_
          refine v_goto (tgt := 99) (pc := 95) C dX12_cannotWrite_95 (by decide) ?_
          exact v_iret (pc := 99) C (by decide) (by decide) dX12_cannotWrite_99 ⟨(congrArg (fun q => some (Value.int q)) (by show _ = _; rw [V_X12_cannotWrite, if_neg c_2, if_pos c_3, if_pos c_10, if_neg c_11])), rfl, rfl⟩
        · skip
          refine v_aload_n (pc := 65) C dX12_cannotWrite_65 2 rfl rfl ?_
          refine v_get (pc := 66) C (40, 0) (v := .ref (A (68, 0))) ck_40 rfl 23 (by decide) inX12 wd_1411 rfl rfl dX12_cannotWrite_66 ?_
          refine v_iload_n (pc := 69) C dX12_cannotWrite_69 4 rfl rfl ?_
          refine v_zald (pc := 70) C (68, 0) (v := (g 68 (x).toNatClampNeg 0)) ck_68 (by (try simp only [Int32.le_iff_toInt_le, Int32.lt_iff_toInt_lt, ← Int32.toInt_inj, vp_in_iff, Int32.reduceToInt] at c_2 c_3 c_10 c_11 b_1 hu hg hf u_0 u_N x_0 x_N y_0 y_N ⊢) <;> omega) rfl dX12_cannotWrite_70 ?_
          refine v_if_ne (pc := 71) (tgt := 94) C dX12_cannotWrite_71 (by decide) (fun c_12 => ?_) (fun c_12 => ?_)
          · skip
            refine v_iconst (v := 4) (pc := 94) C dX12_cannotWrite_94 rfl ?_
            refine v_goto (tgt := 99) (pc := 95) C dX12_cannotWrite_95 (by decide) ?_
            exact v_iret (pc := 99) C (by decide) (by decide) dX12_cannotWrite_99 ⟨(congrArg (fun q => some (Value.int q)) (by show _ = _; rw [V_X12_cannotWrite, if_neg c_2, if_pos c_3, if_pos c_10, if_pos c_11, if_neg c_12])), rfl, rfl⟩
          · skip
            refine v_aload_n (pc := 74) C dX12_cannotWrite_74 2 rfl rfl ?_
            refine v_iload_n (pc := 75) C dX12_cannotWrite_75 4 rfl rfl ?_
            refine v_callV (pc := 76) C (40, 0) ck_40 rfl (c_X12_isSpoiled hG (x) hu0 hu hg0 hg hf0 hf (by (try simp only [Int32.le_iff_toInt_le, Int32.lt_iff_toInt_lt, ← Int32.toInt_inj, Int32.reduceToInt] at c_2 c_3 c_10 c_11 c_12 b_1 hu hg hf u_0 u_N x_0 x_N y_0 y_N ⊢); omega) (by (try simp only [Int32.le_iff_toInt_le, Int32.lt_iff_toInt_lt, ← Int32.toInt_inj, Int32.reduceToInt] at c_2 c_3 c_10 c_11 c_12 b_1 hu hg hf u_0 u_N x_0 x_N y_0 y_N ⊢); omega)) 1 wd_1570 wd_68 wd_1567 wd_1569 wd_40 (by decide +kernel) (by decide) (by decide) rfl ([]) rfl (Nat.le_of_ble_eq_true rfl) (by decide) dX12_cannotWrite_76 (fun _ _ _ q => q.elim) (fun v9 A9 h9 hR9 => ?_)
            obtain ⟨rfl, hA9, rfl⟩ := hR9
            obtain rfl := hA9.symm
            refine v_st (k2 := 0) (n2 := 0) (st2 := [.int ((V_X12_isSpoiled g (x)))]) rfl rfl rfl ?_
            refine v_if_ne (pc := 79) (tgt := 94) C dX12_cannotWrite_79 (by decide) (fun c_13 => ?_) (fun c_13 => ?_)
            · skip
              refine v_iconst (v := 4) (pc := 94) C dX12_cannotWrite_94 rfl ?_
              refine v_goto (tgt := 99) (pc := 95) C dX12_cannotWrite_95 (by decide) ?_
              exact v_iret (pc := 99) C (by decide) (by decide) dX12_cannotWrite_99 ⟨(congrArg (fun q => some (Value.int q)) (by show _ = _; rw [V_X12_cannotWrite, if_neg c_2, if_pos c_3, if_pos c_10, if_pos c_11, if_pos c_12, if_neg c_13])), rfl, rfl⟩
            · skip
              refine v_iload (pc := 82) C dX12_cannotWrite_82 0 rfl ?_
              refine v_if_ne (pc := 84) (tgt := 94) C dX12_cannotWrite_84 (by decide) (fun c_14 => ?_) (fun c_14 => ?_)
              · skip
                exact absurd c_14 (by decide)
              · skip
                refine v_aload_n (pc := 87) C dX12_cannotWrite_87 2 rfl rfl ?_
                refine v_callV (pc := 88) C (40, 0) ck_40 rfl (c_X12_isFull hG  ) 0 wd_1551 wd_68 wd_1548 wd_1550 wd_38 (by decide +kernel) (by decide) (by decide) rfl ([]) rfl (Nat.le_of_ble_eq_true rfl) (by decide) dX12_cannotWrite_88 (fun _ _ _ q => q.elim) (fun v9 A9 h9 hR9 => ?_)
                obtain ⟨rfl, hA9, rfl⟩ := hR9
                obtain rfl := hA9.symm
                refine v_st (k2 := 0) (n2 := 0) (st2 := [.int ((V_X12_isFull g))]) rfl rfl rfl ?_
                have b_15 := ok_isFull (g := g)
                refine v_if_eq (pc := 91) (tgt := 98) C dX12_cannotWrite_91 (by decide) (fun c_16 => ?_) (fun c_16 => ?_)
                · skip
                  refine v_iconst (v := 0) (pc := 98) C dX12_cannotWrite_98 rfl ?_
                  exact v_iret (pc := 99) C (by decide) (by decide) dX12_cannotWrite_99 ⟨(congrArg (fun q => some (Value.int q)) (by show _ = _; rw [V_X12_cannotWrite, if_neg c_2, if_pos c_3, if_pos c_10, if_pos c_11, if_pos c_12, if_pos c_13, if_pos c_16])), rfl, rfl⟩
                · skip
                  refine v_iconst (v := 4) (pc := 94) C dX12_cannotWrite_94 rfl ?_
                  refine v_goto (tgt := 99) (pc := 95) C dX12_cannotWrite_95 (by decide) ?_
                  exact v_iret (pc := 99) C (by decide) (by decide) dX12_cannotWrite_99 ⟨(congrArg (fun q => some (Value.int q)) (by show _ = _; rw [V_X12_cannotWrite, if_neg c_2, if_pos c_3, if_pos c_10, if_pos c_11, if_pos c_12, if_pos c_13, if_neg c_16])), rfl, rfl⟩
      · skip
        refine v_iconst (v := 1) (pc := 49) C dX12_cannotWrite_49 rfl ?_
        refine v_goto (tgt := 54) (pc := 50) C dX12_cannotWrite_50 (by decide) ?_
        refine v_istore (lv2 := [(5, .int (1)), (4, .int ((g 55 (x).toNatClampNeg 0))), (0, .ref (A (40, 0))), (1, .int (u)), (2, .int (x)), (3, .int (y))]) (pc := 54) C dX12_cannotWrite_54 (by decide) rfl ?_
        refine v_aload_n (pc := 56) C dX12_cannotWrite_56 2 rfl rfl ?_
        refine v_get (pc := 57) C (40, 0) (v := .ref (A (47, 0))) ck_40 rfl 7 (by decide) inX12 wd_1395 rfl rfl dX12_cannotWrite_57 ?_
        refine v_iload_n (pc := 60) C dX12_cannotWrite_60 3 rfl rfl ?_
        refine v_zald (pc := 61) C (47, 0) (v := (g 47 (u).toNatClampNeg 0)) ck_47 (by (try simp only [Int32.le_iff_toInt_le, Int32.lt_iff_toInt_lt, ← Int32.toInt_inj, vp_in_iff, Int32.reduceToInt] at c_2 c_3 c_10 b_1 hu hg hf u_0 u_N x_0 x_N y_0 y_N ⊢) <;> omega) rfl dX12_cannotWrite_61 ?_
        refine v_if_ne (pc := 62) (tgt := 94) C dX12_cannotWrite_62 (by decide) (fun c_17 => ?_) (fun c_17 => ?_)
        · skip
          refine v_iconst (v := 4) (pc := 94) C dX12_cannotWrite_94 rfl ?_
          refine v_goto (tgt := 99) (pc := 95) C dX12_cannotWrite_95 (by decide) ?_
          exact v_iret (pc := 99) C (by decide) (by decide) dX12_cannotWrite_99 ⟨(congrArg (fun q => some (Value.int q)) (by show _ = _; rw [V_X12_cannotWrite, if_neg c_2, if_pos c_3, if_neg c_10])), rfl, rfl⟩
        · skip
          refine v_aload_n (pc := 65) C dX12_cannotWrite_65 2 rfl rfl ?_
          refine v_get (pc := 66) C (40, 0) (v := .ref (A (68, 0))) ck_40 rfl 23 (by decide) inX12 wd_1411 rfl rfl dX12_cannotWrite_66 ?_
          refine v_iload_n (pc := 69) C dX12_cannotWrite_69 4 rfl rfl ?_
          refine v_zald (pc := 70) C (68, 0) (v := (g 68 (x).toNatClampNeg 0)) ck_68 (by (try simp only [Int32.le_iff_toInt_le, Int32.lt_iff_toInt_lt, ← Int32.toInt_inj, vp_in_iff, Int32.reduceToInt] at c_2 c_3 c_10 c_17 b_1 hu hg hf u_0 u_N x_0 x_N y_0 y_N ⊢) <;> omega) rfl dX12_cannotWrite_70 ?_
          refine v_if_ne (pc := 71) (tgt := 94) C dX12_cannotWrite_71 (by decide) (fun c_18 => ?_) (fun c_18 => ?_)
          · skip
            refine v_iconst (v := 4) (pc := 94) C dX12_cannotWrite_94 rfl ?_
            refine v_goto (tgt := 99) (pc := 95) C dX12_cannotWrite_95 (by decide) ?_
            exact v_iret (pc := 99) C (by decide) (by decide) dX12_cannotWrite_99 ⟨(congrArg (fun q => some (Value.int q)) (by show _ = _; rw [V_X12_cannotWrite, if_neg c_2, if_pos c_3, if_neg c_10])), rfl, rfl⟩
          · skip
            refine v_aload_n (pc := 74) C dX12_cannotWrite_74 2 rfl rfl ?_
            refine v_iload_n (pc := 75) C dX12_cannotWrite_75 4 rfl rfl ?_
            refine v_callV (pc := 76) C (40, 0) ck_40 rfl (c_X12_isSpoiled hG (x) hu0 hu hg0 hg hf0 hf (by (try simp only [Int32.le_iff_toInt_le, Int32.lt_iff_toInt_lt, ← Int32.toInt_inj, Int32.reduceToInt] at c_2 c_3 c_10 c_17 c_18 b_1 hu hg hf u_0 u_N x_0 x_N y_0 y_N ⊢); omega) (by (try simp only [Int32.le_iff_toInt_le, Int32.lt_iff_toInt_lt, ← Int32.toInt_inj, Int32.reduceToInt] at c_2 c_3 c_10 c_17 c_18 b_1 hu hg hf u_0 u_N x_0 x_N y_0 y_N ⊢); omega)) 1 wd_1570 wd_68 wd_1567 wd_1569 wd_40 (by decide +kernel) (by decide) (by decide) rfl ([]) rfl (Nat.le_of_ble_eq_true rfl) (by decide) dX12_cannotWrite_76 (fun _ _ _ q => q.elim) (fun v9 A9 h9 hR9 => ?_)
            obtain ⟨rfl, hA9, rfl⟩ := hR9
            obtain rfl := hA9.symm
            refine v_st (k2 := 0) (n2 := 0) (st2 := [.int ((V_X12_isSpoiled g (x)))]) rfl rfl rfl ?_
            refine v_if_ne (pc := 79) (tgt := 94) C dX12_cannotWrite_79 (by decide) (fun c_19 => ?_) (fun c_19 => ?_)
            · skip
              refine v_iconst (v := 4) (pc := 94) C dX12_cannotWrite_94 rfl ?_
              refine v_goto (tgt := 99) (pc := 95) C dX12_cannotWrite_95 (by decide) ?_
              exact v_iret (pc := 99) C (by decide) (by decide) dX12_cannotWrite_99 ⟨(congrArg (fun q => some (Value.int q)) (by show _ = _; rw [V_X12_cannotWrite, if_neg c_2, if_pos c_3, if_neg c_10])), rfl, rfl⟩
            · skip
              refine v_iload (pc := 82) C dX12_cannotWrite_82 0 rfl ?_
              refine v_if_ne (pc := 84) (tgt := 94) C dX12_cannotWrite_84 (by decide) (fun c_20 => ?_) (fun c_20 => ?_)
              · skip
                refine v_iconst (v := 4) (pc := 94) C dX12_cannotWrite_94 rfl ?_
                refine v_goto (tgt := 99) (pc := 95) C dX12_cannotWrite_95 (by decide) ?_
                exact v_iret (pc := 99) C (by decide) (by decide) dX12_cannotWrite_99 ⟨(congrArg (fun q => some (Value.int q)) (by show _ = _; rw [V_X12_cannotWrite, if_neg c_2, if_pos c_3, if_neg c_10])), rfl, rfl⟩
              · skip
                exact absurd c_20 (by decide)
  · skip
    refine v_iconst (v := 3) (pc := 20) C dX12_cannotWrite_20 rfl ?_
    exact v_iret (pc := 21) C (by decide) (by decide) dX12_cannotWrite_21 ⟨(congrArg (fun q => some (Value.int q)) (by show _ = _; rw [V_X12_cannotWrite, if_pos c_2])), rfl, rfl⟩
def V_X12_meanTold (g : vS)  : UInt64 := (if (g 10 0 0) ≤ 0 then FP.dconst0 else (FP.ddiv (FP.i2d (g 9 0 0)) (FP.i2d (g 10 0 0))))
def S_X12_meanTold (g : vS)  : vS := (if (g 10 0 0) ≤ 0 then (S_X12_isWrong g (1)) else (S_X12_isWrong g (0)))
theorem F_X12_meanTold {g : vS}  {c i j : Nat} (h1 : c ≠ 1) : S_X12_meanTold g c i j = g c i j := by
  unfold S_X12_meanTold
  (repeat' split) <;> first | rfl | ((simp only [s3_k h1, F_X12_isWrong h1]) <;> first | done | rfl)
set_option maxHeartbeats 4000000 in
set_option maxRecDepth 100000 in
theorem c_X12_meanTold {G : vG} (hG : G.1.stackTraces = false) {A : vN → Nat} {g : vS} {r : vH}  (hm0 : 0 ≤ g 10 0 0) (hm : g 10 0 0 ≤ 512) : vCt G yX12_meanTold cX12_meanTold 1 (some .double) 1 [.ref (A (40, 0))] A (wm g r) (fun v A2 h2 => v = some (.double (V_X12_meanTold g)) ∧ A2 = A ∧ h2 = wm (S_X12_meanTold g) r) (vNoX) 0 0 := by
  refine v_of hG (by decide +kernel) (Nat.le_of_ble_eq_true rfl) (lv := [(0, .ref (A (40, 0)))]) rfl (fun X C hnx => ?_)
  have C : vC G X cX12_meanTold 1 RX12 (some .double) "meanTold" 1 0 0 := C
  refine v_aload_n (pc := 0) C dX12_meanTold_0 0 rfl rfl ?_
  refine v_aload_n (pc := 1) C dX12_meanTold_1 0 rfl rfl ?_
  refine v_get (pc := 2) C (40, 0) (v := .int ((g 10 0 0))) ck_40 rfl 34 (by decide) inX12 wd_1422 rfl rfl dX12_meanTold_2 ?_
  refine v_if_le (pc := 5) (tgt := 12) C dX12_meanTold_5 (by decide) (fun c_1 => ?_) (fun c_1 => ?_)
  · skip
    refine v_iconst (v := 1) (pc := 12) C dX12_meanTold_12 rfl ?_
    refine v_callV (pc := 13) C (40, 0) ck_40 rfl (c_X12_isWrong hG (1) ) 1 wd_1531 wd_68 wd_1528 wd_1530 wd_35 (by decide +kernel) (by decide) (by decide) rfl ([]) rfl (Nat.le_of_ble_eq_true rfl) (by decide) dX12_meanTold_13 (fun _ _ _ q => q.elim) (fun v9 A9 h9 hR9 => ?_)
    obtain ⟨rfl, hA9, rfl⟩ := hR9
    obtain rfl := hA9.symm
    refine v_st (k2 := 0) (n2 := 0) (st2 := [.int ((V_X12_isWrong g (1)))]) rfl rfl rfl ?_
    refine v_if_eq (pc := 16) (tgt := 23) C dX12_meanTold_16 (by decide) (fun c_2 => ?_) (fun c_2 => ?_)
    · skip
      exact absurd c_2 (fun q9 => ((show ¬ (1 : Int32) = 0 from by decide)) q9)
    · skip
      refine v_dconst0 (pc := 19) C dX12_meanTold_19 ?_
      refine v_goto (tgt := 34) (pc := 20) C dX12_meanTold_20 (by decide) ?_
      exact v_dret (pc := 34) C (by decide) (by decide) dX12_meanTold_34 ⟨(congrArg (fun q => some (Value.double q)) (by show _ = _; rw [V_X12_meanTold, if_pos c_1])), rfl, (congrArg (fun q => wm q r) (by show _ = _; rw [S_X12_meanTold, if_pos c_1]))⟩
  · skip
    refine v_iconst (v := 0) (pc := 8) C dX12_meanTold_8 rfl ?_
    refine v_goto (tgt := 13) (pc := 9) C dX12_meanTold_9 (by decide) ?_
    refine v_callV (pc := 13) C (40, 0) ck_40 rfl (c_X12_isWrong hG (0) ) 1 wd_1531 wd_68 wd_1528 wd_1530 wd_35 (by decide +kernel) (by decide) (by decide) rfl ([]) rfl (Nat.le_of_ble_eq_true rfl) (by decide) dX12_meanTold_13 (fun _ _ _ q => q.elim) (fun v9 A9 h9 hR9 => ?_)
    obtain ⟨rfl, hA9, rfl⟩ := hR9
    obtain rfl := hA9.symm
    refine v_st (k2 := 0) (n2 := 0) (st2 := [.int ((V_X12_isWrong g (0)))]) rfl rfl rfl ?_
    refine v_if_eq (pc := 16) (tgt := 23) C dX12_meanTold_16 (by decide) (fun c_3 => ?_) (fun c_3 => ?_)
    · skip
      refine v_aload_n (pc := 23) C dX12_meanTold_23 0 rfl rfl ?_
      refine v_get (pc := 24) C (40, 0) (v := .int ((g 9 0 0))) ck_40 rfl 33 (by decide) inX12 wd_1421 rfl (congrArg Value.int (F_X12_isWrong (by decide))) dX12_meanTold_24 ?_
      refine v_i2d (pc := 27) C dX12_meanTold_27 ?_
      refine v_aload_n (pc := 28) C dX12_meanTold_28 0 rfl rfl ?_
      refine v_get (pc := 29) C (40, 0) (v := .int ((g 10 0 0))) ck_40 rfl 34 (by decide) inX12 wd_1422 rfl (congrArg Value.int (F_X12_isWrong (by decide))) dX12_meanTold_29 ?_
      refine v_i2d (pc := 32) C dX12_meanTold_32 ?_
      refine v_ddiv (pc := 33) C dX12_meanTold_33 (fn64_div (y := (FP.i2d (g 10 0 0))) (fn64_int _) (vFin_n (fun z9 => by simp only [z9] at c_1; first | exact absurd c_1 (by decide) | contradiction) hm0 hm)) ?_
      exact v_dret (pc := 34) C (by decide) (by decide) dX12_meanTold_34 ⟨(congrArg (fun q => some (Value.double q)) (by show _ = _; rw [V_X12_meanTold, if_neg c_1])), rfl, (congrArg (fun q => wm q r) (by show _ = _; rw [S_X12_meanTold, if_neg c_1]))⟩
    · skip
      exact absurd c_3 (fun q9 => q9 ((show (0 : Int32) = 0 from rfl)))
theorem i32_div2 {x : Int32} (h : ¬ x ≤ 0) : (x / 2).toNatClampNeg + 1 ≤ x.toNatClampNeg := by
  rw [Int32.le_iff_toInt_le, show (0 : Int32).toInt = 0 from by decide] at h
  have h2 := Int32.toInt_lt x
  have e : (x / 2).toInt = x.toInt / 2 := by
    rw [Int32.toInt_div, show (2 : Int32).toInt = 2 from by decide, Int.tdiv_eq_ediv_of_nonneg (by omega)]
    apply Int.bmod_eq_of_le <;> omega
  show (x / 2).toInt.toNat + 1 ≤ x.toInt.toNat
  rw [e]
  omega
def VL_X12_power_8 (g : vS) (x : Int64) (y : Int32) : Nat → Int32 → Int64 → Int64 → Int64
  | 0, _, _, _ => 0
  | n + 1, x_8_7, x_8_5, x_8_3 => (if x_8_7 ≤ 0 then x_8_3 else (if (x_8_7 - x_8_7 / 2 * 2) = 1 then (VL_X12_power_8 g x y n ((x_8_7 / 2)) (((x_8_5 * x_8_5) - (x_8_5 * x_8_5) / 65521 * 65521)) (((x_8_3 * x_8_5) - (x_8_3 * x_8_5) / 65521 * 65521))) else (VL_X12_power_8 g x y n ((x_8_7 / 2)) (((x_8_5 * x_8_5) - (x_8_5 * x_8_5) / 65521 * 65521)) (x_8_3))))
def V_X12_power (g : vS) (x : Int64) (y : Int32) : Int64 := (VL_X12_power_8 g x y (65519 + 1) (y) (x) (1))
set_option maxHeartbeats 4000000 in
set_option maxRecDepth 100000 in
theorem c_X12_power {G : vG} (hG : G.1.stackTraces = false) {A : vN → Nat} {g : vS} {r : vH} (x : Int64) (y : Int32) (hy : (y).toNatClampNeg + 1 ≤ 65520) : vCt G yX12_power cX12_power 8 (some .long) 0 [.long (x), .int (y)] A (wm g r) (fun v A2 h2 => v = some (.long (V_X12_power g x y)) ∧ A2 = A ∧ h2 = wm g r) (vNoX) 0 0 := by
  refine v_of hG (by decide +kernel) (Nat.le_of_ble_eq_true rfl) (lv := [(0, .long (x)), (2, .int (y))]) rfl (fun X C hnx => ?_)
  have C : vC G X cX12_power 8 RX12 (some .long) "power" 0 0 0 := C
  refine v_lconst (v := 1) (pc := 0) C dX12_power_0 rfl ?_
  refine v_lstore_n (lv2 := [(3, .long (1)), (0, .long (x)), (2, .int (y))]) (pc := 1) C dX12_power_1 rfl (by decide) rfl ?_
  refine v_lload_n (pc := 2) C dX12_power_2 1 rfl rfl ?_
  refine v_lstore (lv2 := [(5, .long (x)), (3, .long (1)), (0, .long (x)), (2, .int (y))]) (pc := 3) C dX12_power_3 (by decide) rfl ?_
  refine v_iload_n (pc := 5) C dX12_power_5 3 rfl rfl ?_
  refine v_istore (lv2 := [(7, .int (y)), (5, .long (x)), (3, .long (1)), (0, .long (x)), (2, .int (y))]) (pc := 6) C dX12_power_6 (by decide) rfl ?_
  have L_8 : ∀ (n : Nat) (x_8_7 : Int32) (x_8_5 : Int64) (x_8_3 : Int64), (x_8_7).toNatClampNeg + 1 ≤ n → (V_X12_power g x y) = VL_X12_power_8 g x y n x_8_7 x_8_5 x_8_3 → V G 8 X A (wm g r) 0 0 (vM G X (fun v A2 h2 => v = some (.long (V_X12_power g x y)) ∧ A2 = A ∧ h2 = wm g r) (vNoX) 0 0) 8 [(7, .int (x_8_7)), (5, .long (x_8_5)), (3, .long (x_8_3)), (0, .long (x)), (2, .int (y))] [] := by
    intro n
    induction n with
    | zero => intro x_8_7 x_8_5 x_8_3 hc_8 eV_8; exact absurd hc_8 (by omega)
    | succ n ih =>
      intro x_8_7 x_8_5 x_8_3 hc_8 eV_8
      refine v_iload (pc := 8) C dX12_power_8 0 rfl ?_
      refine v_if_le (pc := 10) (tgt := 54) C dX12_power_10 (by decide) (fun c_1 => ?_) (fun c_1 => ?_)
      · skip
        refine v_lload_n (pc := 54) C dX12_power_54 2 rfl rfl ?_
        exact v_lret (pc := 55) C (by decide) (by decide) dX12_power_55 ⟨(congrArg (fun q => some (Value.long q)) (by show _ = _; rw [eV_8, VL_X12_power_8, if_pos c_1])), rfl, rfl⟩
      · skip
        refine v_iload (pc := 13) C dX12_power_13 0 rfl ?_
        refine v_iconst (v := 2) (pc := 15) C dX12_power_15 rfl ?_
        refine v_irem (pc := 16) C dX12_power_16 (by decide) ?_
        refine v_iconst (v := 1) (pc := 17) C dX12_power_17 rfl ?_
        refine v_icmp_ne (pc := 18) (tgt := 32) C dX12_power_18 (by decide) (fun c_2 => ?_) (fun c_2 => ?_)
        · skip
          refine v_lload_n (pc := 32) C dX12_power_32 2 rfl rfl ?_
          refine v_lstore_n (lv2 := [(3, .long (x_8_3)), (7, .int (x_8_7)), (5, .long (x_8_5)), (0, .long (x)), (2, .int (y))]) (pc := 33) C dX12_power_33 rfl (by decide) rfl ?_
          refine v_lload (pc := 34) C dX12_power_34 2 rfl ?_
          refine v_lload (pc := 36) C dX12_power_36 2 rfl ?_
          refine v_lmul (pc := 38) C dX12_power_38 ?_
          refine v_ldc2 (v := 65521) (pc := 39) C dX12_power_39 wd_1812 ?_
          refine v_lrem (pc := 42) C dX12_power_42 (by decide) ?_
          refine v_lstore (lv2 := [(5, .long (((x_8_5 * x_8_5) - (x_8_5 * x_8_5) / 65521 * 65521))), (3, .long (x_8_3)), (7, .int (x_8_7)), (0, .long (x)), (2, .int (y))]) (pc := 43) C dX12_power_43 (by decide) rfl ?_
          refine v_iload (pc := 45) C dX12_power_45 2 rfl ?_
          refine v_iconst (v := 2) (pc := 47) C dX12_power_47 rfl ?_
          refine v_idiv (pc := 48) C dX12_power_48 (by decide) ?_
          refine v_istore (lv2 := [(7, .int ((x_8_7 / 2))), (5, .long (((x_8_5 * x_8_5) - (x_8_5 * x_8_5) / 65521 * 65521))), (3, .long (x_8_3)), (0, .long (x)), (2, .int (y))]) (pc := 49) C dX12_power_49 (by decide) rfl ?_
          refine v_goto (tgt := 8) (pc := 51) C dX12_power_51 (by decide) ?_
          refine v_lv (lv2 := [(7, .int ((x_8_7 / 2))), (5, .long (((x_8_5 * x_8_5) - (x_8_5 * x_8_5) / 65521 * 65521))), (3, .long (x_8_3)), (0, .long (x)), (2, .int (y))]) [0, 1, 2, 3, 4] rfl ?_
          exact ih ((x_8_7 / 2)) (((x_8_5 * x_8_5) - (x_8_5 * x_8_5) / 65521 * 65521)) (x_8_3)  (Nat.le_of_add_le_add_right (Nat.le_trans (Nat.add_le_add_right (i32_div2 c_1) 1) hc_8))  (by rw [eV_8, VL_X12_power_8, if_neg c_1, if_neg c_2])
        · skip
          refine v_lload_n (pc := 21) C dX12_power_21 2 rfl rfl ?_
          refine v_lload (pc := 22) C dX12_power_22 1 rfl ?_
          refine v_lmul (pc := 24) C dX12_power_24 ?_
          refine v_ldc2 (v := 65521) (pc := 25) C dX12_power_25 wd_1812 ?_
          refine v_lrem (pc := 28) C dX12_power_28 (by decide) ?_
          refine v_goto (tgt := 33) (pc := 29) C dX12_power_29 (by decide) ?_
          refine v_lstore_n (lv2 := [(3, .long (((x_8_3 * x_8_5) - (x_8_3 * x_8_5) / 65521 * 65521))), (7, .int (x_8_7)), (5, .long (x_8_5)), (0, .long (x)), (2, .int (y))]) (pc := 33) C dX12_power_33 rfl (by decide) rfl ?_
          refine v_lload (pc := 34) C dX12_power_34 2 rfl ?_
          refine v_lload (pc := 36) C dX12_power_36 2 rfl ?_
          refine v_lmul (pc := 38) C dX12_power_38 ?_
          refine v_ldc2 (v := 65521) (pc := 39) C dX12_power_39 wd_1812 ?_
          refine v_lrem (pc := 42) C dX12_power_42 (by decide) ?_
          refine v_lstore (lv2 := [(5, .long (((x_8_5 * x_8_5) - (x_8_5 * x_8_5) / 65521 * 65521))), (3, .long (((x_8_3 * x_8_5) - (x_8_3 * x_8_5) / 65521 * 65521))), (7, .int (x_8_7)), (0, .long (x)), (2, .int (y))]) (pc := 43) C dX12_power_43 (by decide) rfl ?_
          refine v_iload (pc := 45) C dX12_power_45 2 rfl ?_
          refine v_iconst (v := 2) (pc := 47) C dX12_power_47 rfl ?_
          refine v_idiv (pc := 48) C dX12_power_48 (by decide) ?_
          refine v_istore (lv2 := [(7, .int ((x_8_7 / 2))), (5, .long (((x_8_5 * x_8_5) - (x_8_5 * x_8_5) / 65521 * 65521))), (3, .long (((x_8_3 * x_8_5) - (x_8_3 * x_8_5) / 65521 * 65521))), (0, .long (x)), (2, .int (y))]) (pc := 49) C dX12_power_49 (by decide) rfl ?_
          refine v_goto (tgt := 8) (pc := 51) C dX12_power_51 (by decide) ?_
          refine v_lv (lv2 := [(7, .int ((x_8_7 / 2))), (5, .long (((x_8_5 * x_8_5) - (x_8_5 * x_8_5) / 65521 * 65521))), (3, .long (((x_8_3 * x_8_5) - (x_8_3 * x_8_5) / 65521 * 65521))), (0, .long (x)), (2, .int (y))]) [0, 1, 2, 3, 4] rfl ?_
          exact ih ((x_8_7 / 2)) (((x_8_5 * x_8_5) - (x_8_5 * x_8_5) / 65521 * 65521)) (((x_8_3 * x_8_5) - (x_8_3 * x_8_5) / 65521 * 65521))  (Nat.le_of_add_le_add_right (Nat.le_trans (Nat.add_le_add_right (i32_div2 c_1) 1) hc_8))  (by rw [eV_8, VL_X12_power_8, if_neg c_1, if_pos c_2])
  exact L_8 (65519 + 1) (y) (x) (1)  hy  (by rw [V_X12_power])
/-- how many shares a secret needs is from 0 to 8 -/
def vM5 (g : vS) : Prop := ∀ u : Nat, 0 ≤ (g 46 u 0).toInt ∧ (g 46 u 0).toInt ≤ 8
theorem vM5_k {g G : vS} (h : ∀ i j, G 46 i j = g 46 i j) (q : vM5 g) : vM5 G := fun u => by rw [h]; exact q u
theorem tn_dec0 {x : Int32} (h : ¬ x < 0) : (x + -1 + 1).toNatClampNeg + 1 ≤ (x + 1).toNatClampNeg ∨ x.toInt = 2147483647 := by
  rw [Int32.lt_iff_toInt_lt, show (0 : Int32).toInt = 0 from by decide] at h
  have h2 := Int32.toInt_lt x
  by_cases q : x.toInt = 2147483647
  · exact Or.inr q
  · refine Or.inl ?_
    have e1 : (x + -1).toInt = x.toInt - 1 := by
      rw [Int32.toInt_add, show (-1 : Int32).toInt = -1 from by decide]
      apply Int.bmod_eq_of_le <;> omega
    have e2 : (x + -1 + 1).toInt = x.toInt := by
      rw [Int32.toInt_add, e1, show (1 : Int32).toInt = 1 from by decide]
      rw [Int.sub_add_cancel]
      apply Int.bmod_eq_of_le <;> omega
    have e3 : (x + 1).toInt = x.toInt + 1 := i32_add1 (by omega)
    show (x + -1 + 1).toInt.toNat + 1 ≤ (x + 1).toInt.toNat
    rw [e2, e3]
    omega
theorem sh_init {x : Int32} (h : 0 ≤ x.toInt ∧ x.toInt ≤ 8) : (x - 1 + 1).toNatClampNeg + 1 ≤ 10 ∧ -1 ≤ (x - 1).toInt ∧ (x - 1).toInt ≤ 8 := by
  have e := i32_sub1 h.1
  have e2 : (x - 1 + 1).toInt = (x - 1).toInt + 1 := i32_add1 (by omega)
  refine ⟨?_, by omega, by omega⟩
  show (x - 1 + 1).toInt.toNat + 1 ≤ 10
  omega
theorem sh_step {x : Int32} (h : ¬ x < 0) (hj : -1 ≤ x.toInt ∧ x.toInt ≤ 8) : (x + -1 + 1).toNatClampNeg + 1 ≤ (x + 1).toNatClampNeg ∧ -1 ≤ (x + -1).toInt ∧ (x + -1).toInt ≤ 8 := by
  refine ⟨(tn_dec0 h).resolve_right (by omega), ?_⟩
  rw [Int32.lt_iff_toInt_lt, show (0 : Int32).toInt = 0 from by decide] at h
  have e1 : (x + -1).toInt = x.toInt - 1 := by
    rw [Int32.toInt_add, show (-1 : Int32).toInt = -1 from by decide]
    apply Int.bmod_eq_of_le <;> omega
  omega
def VL_X12_share_65 (g : vS) (u : Int32) (x : Int32) : Nat → Int32 → Int64 → vS → Int32
  | 0, _, _, _ => 0
  | n + 1, x_65_5, x_65_3, q_65 => (if x_65_5 < 0 then (x_65_3 : Int64).toInt32 else (if x_65_5 = 0 then (VL_X12_share_65 g u x n ((x_65_5 + -1)) ((((x_65_3 * (x : Int32).toInt64) + ((g 41 (u).toNatClampNeg 0) : Int32).toInt64) - ((x_65_3 * (x : Int32).toInt64) + ((g 41 (u).toNatClampNeg 0) : Int32).toInt64) / 65521 * 65521)) q_65) else (VL_X12_share_65 g u x n ((x_65_5 + -1)) ((((x_65_3 * (x : Int32).toInt64) + ((V_J9_floorMod_7cf53 q_65 (pMix (pMix (3) (u)) (x_65_5)) (65521)) : Int32).toInt64) - ((x_65_3 * (x : Int32).toInt64) + ((V_J9_floorMod_7cf53 q_65 (pMix (pMix (3) (u)) (x_65_5)) (65521)) : Int32).toInt64) / 65521 * 65521)) q_65)))
def SL_X12_share_65 (g : vS) (u : Int32) (x : Int32) : Nat → Int32 → Int64 → vS → vS
  | 0, _, _, q9 => q9
  | n + 1, x_65_5, x_65_3, q_65 => (if x_65_5 < 0 then q_65 else (if x_65_5 = 0 then (SL_X12_share_65 g u x n ((x_65_5 + -1)) ((((x_65_3 * (x : Int32).toInt64) + ((g 41 (u).toNatClampNeg 0) : Int32).toInt64) - ((x_65_3 * (x : Int32).toInt64) + ((g 41 (u).toNatClampNeg 0) : Int32).toInt64) / 65521 * 65521)) q_65) else (SL_X12_share_65 g u x n ((x_65_5 + -1)) ((((x_65_3 * (x : Int32).toInt64) + ((V_J9_floorMod_7cf53 q_65 (pMix (pMix (3) (u)) (x_65_5)) (65521)) : Int32).toInt64) - ((x_65_3 * (x : Int32).toInt64) + ((V_J9_floorMod_7cf53 q_65 (pMix (pMix (3) (u)) (x_65_5)) (65521)) : Int32).toInt64) / 65521 * 65521)) q_65)))
def V_X12_share (g : vS) (u : Int32) (x : Int32) : Int32 := (if (V_X12_isUser g (u)) = 0 then 0 else (if (g 46 (u).toNatClampNeg 0) = 0 then 0 else (if (V_X12_isBetween g (x) (1) ((g 45 (u).toNatClampNeg 0))) = 0 then 0 else (VL_X12_share_65 g u x (9 + 1) (((g 46 (u).toNatClampNeg 0) - 1)) (0) (S_X12_isWrong g (0))))))
def S_X12_share (g : vS) (u : Int32) (x : Int32) : vS := (if (V_X12_isUser g (u)) = 0 then (S_X12_isWrong g (1)) else (if (g 46 (u).toNatClampNeg 0) = 0 then (S_X12_isWrong g (2)) else (if (V_X12_isBetween g (x) (1) ((g 45 (u).toNatClampNeg 0))) = 0 then (S_X12_isWrong g (3)) else (SL_X12_share_65 g u x (9 + 1) (((g 46 (u).toNatClampNeg 0) - 1)) (0) (S_X12_isWrong g (0))))))
theorem FL_X12_share_65 {g : vS} {u : Int32} {x : Int32} {c i j : Nat} (h1 : c ≠ 1) : ∀ (n : Nat) (a0 : Int32) (a1 : Int64) (a2 : vS), a2 c i j = g c i j → SL_X12_share_65 g u x n a0 a1 a2 c i j = g c i j := by
  intro n
  induction n with
  | zero => intro a0 a1 a2 hq9; exact hq9
  | succ n ih =>
    intro a0 a1 a2 hq9
    simp only [SL_X12_share_65]
    (repeat' split) <;> first | rfl | exact hq9 | (apply ih; first | exact hq9 | rfl | trivial | ((simp only [s3_k h1, F_X12_isWrong h1]) <;> first | done | exact hq9 | rfl)) | ((simp only [s3_k h1, F_X12_isWrong h1]) <;> first | done | exact hq9 | rfl)
theorem F_X12_share {g : vS} {u : Int32} {x : Int32} {c i j : Nat} (h1 : c ≠ 1) : S_X12_share g u x c i j = g c i j := by
  unfold S_X12_share
  (repeat' split) <;> first | rfl | (apply FL_X12_share_65 h1; first | rfl | trivial | ((simp only [s3_k h1, F_X12_isWrong h1]) <;> first | done | rfl)) | ((simp only [s3_k h1, F_X12_isWrong h1]) <;> first | done | rfl)
set_option maxHeartbeats 4000000 in
set_option maxRecDepth 100000 in
theorem c_X12_share {G : vG} (hG : G.1.stackTraces = false) {A : vN → Nat} {g : vS} {r : vH} (u : Int32) (x : Int32) (hu0 : 0 ≤ (g 2 0 0).toInt) (hu : (g 2 0 0).toInt ≤ 6) (hg0 : 0 ≤ (g 3 0 0).toInt) (hg : (g 3 0 0).toInt ≤ 5) (hf0 : 0 ≤ (g 4 0 0).toInt) (hf : (g 4 0 0).toInt ≤ 20) (h5 : vM5 g) : vCt G yX12_share cX12_share 8 (some .int) 2 [.ref (A (40, 0)), .int (u), .int (x)] A (wm g r) (fun v A2 h2 => v = some (.int (V_X12_share g u x)) ∧ A2 = A ∧ h2 = wm (S_X12_share g u x) r) (vNoX) 0 0 := by
  refine v_of hG (by decide +kernel) (Nat.le_of_ble_eq_true rfl) (lv := [(0, .ref (A (40, 0))), (1, .int (u)), (2, .int (x))]) rfl (fun X C hnx => ?_)
  have C : vC G X cX12_share 8 RX12 (some .int) "share" 2 0 0 := C
  refine v_aload_n (pc := 0) C dX12_share_0 0 rfl rfl ?_
  refine v_aload_n (pc := 1) C dX12_share_1 0 rfl rfl ?_
  refine v_iload_n (pc := 2) C dX12_share_2 1 rfl rfl ?_
  refine v_callV (pc := 3) C (40, 0) ck_40 rfl (c_X12_isUser hG (u) ) 1 wd_1539 wd_68 wd_1536 wd_1538 wd_36 (by decide +kernel) (by decide) (by decide) rfl ([.ref (A (40, 0))]) rfl (Nat.le_of_ble_eq_true rfl) (by decide) dX12_share_3 (fun _ _ _ q => q.elim) (fun v9 A9 h9 hR9 => ?_)
  obtain ⟨rfl, hA9, rfl⟩ := hR9
  obtain rfl := hA9.symm
  refine v_st (k2 := 0) (n2 := 0) (st2 := [.int ((V_X12_isUser g (u))), .ref (A (40, 0))]) rfl rfl rfl ?_
  have b_1 := ok_isUser (g := g) (x := u) hu0
  refine v_if_ne (pc := 6) (tgt := 13) C dX12_share_6 (by decide) (fun c_2 => ?_) (fun c_2 => ?_)
  · skip
    refine v_aload_n (pc := 13) C dX12_share_13 0 rfl rfl ?_
    refine v_get (pc := 14) C (40, 0) (v := .ref (A (46, 0))) ck_40 rfl 6 (by decide) inX12 wd_1394 rfl rfl dX12_share_14 ?_
    refine v_iload_n (pc := 17) C dX12_share_17 1 rfl rfl ?_
    refine v_iald (pc := 18) C (46, 0) (v := (g 46 (u).toNatClampNeg 0)) ck_46 (by (try simp only [Int32.le_iff_toInt_le, Int32.lt_iff_toInt_lt, ← Int32.toInt_inj, vp_in_iff, Int32.reduceToInt] at c_2 b_1 hu hg hf ⊢) <;> omega) rfl dX12_share_18 ?_
    refine v_if_ne (pc := 19) (tgt := 26) C dX12_share_19 (by decide) (fun c_3 => ?_) (fun c_3 => ?_)
    · skip
      refine v_iload_n (pc := 26) C dX12_share_26 2 rfl rfl ?_
      refine v_iconst (v := 1) (pc := 27) C dX12_share_27 rfl ?_
      refine v_aload_n (pc := 28) C dX12_share_28 0 rfl rfl ?_
      refine v_get (pc := 29) C (40, 0) (v := .ref (A (45, 0))) ck_40 rfl 5 (by decide) inX12 wd_1393 rfl rfl dX12_share_29 ?_
      refine v_iload_n (pc := 32) C dX12_share_32 1 rfl rfl ?_
      refine v_iald (pc := 33) C (45, 0) (v := (g 45 (u).toNatClampNeg 0)) ck_45 (by (try simp only [Int32.le_iff_toInt_le, Int32.lt_iff_toInt_lt, ← Int32.toInt_inj, vp_in_iff, Int32.reduceToInt] at c_2 c_3 b_1 hu hg hf ⊢) <;> omega) rfl dX12_share_33 ?_
      refine v_callS (pc := 34) C (c_X12_isBetween hG (x) (1) ((g 45 (u).toNatClampNeg 0)) ) 3 wd_1527 wd_68 wd_1525 wd_1526 (by decide +kernel) (by decide) (by decide) rfl ([.ref (A (40, 0))]) rfl (Nat.le_of_ble_eq_true rfl) (by decide) dX12_share_34 (fun _ _ _ q => q.elim) (fun v9 A9 h9 hR9 => ?_)
      obtain ⟨rfl, hA9, rfl⟩ := hR9
      obtain rfl := hA9.symm
      refine v_st (k2 := 0) (n2 := 0) (st2 := [.int ((V_X12_isBetween g (x) (1) ((g 45 (u).toNatClampNeg 0)))), .ref (A (40, 0))]) rfl rfl rfl ?_
      have b_4 := ok_btw (g := g) (x := x) (a := 1) (b := (g 45 (u).toNatClampNeg 0))
      refine v_if_eq (pc := 37) (tgt := 44) C dX12_share_37 (by decide) (fun c_5 => ?_) (fun c_5 => ?_)
      · skip
        refine v_iconst (v := 3) (pc := 44) C dX12_share_44 rfl ?_
        refine v_callV (pc := 45) C (40, 0) ck_40 rfl (c_X12_isWrong hG (3) ) 1 wd_1531 wd_68 wd_1528 wd_1530 wd_35 (by decide +kernel) (by decide) (by decide) rfl ([]) rfl (Nat.le_of_ble_eq_true rfl) (by decide) dX12_share_45 (fun _ _ _ q => q.elim) (fun v9 A9 h9 hR9 => ?_)
        obtain ⟨rfl, hA9, rfl⟩ := hR9
        obtain rfl := hA9.symm
        refine v_st (k2 := 0) (n2 := 0) (st2 := [.int ((V_X12_isWrong g (3)))]) rfl rfl rfl ?_
        refine v_if_eq (pc := 48) (tgt := 53) C dX12_share_48 (by decide) (fun c_6 => ?_) (fun c_6 => ?_)
        · skip
          exact absurd c_6 (fun q9 => ((show ¬ (1 : Int32) = 0 from by decide)) q9)
        · skip
          refine v_iconst (v := 0) (pc := 51) C dX12_share_51 rfl ?_
          exact v_iret (pc := 52) C (by decide) (by decide) dX12_share_52 ⟨(congrArg (fun q => some (Value.int q)) (by show _ = _; rw [V_X12_share, if_neg c_2, if_neg c_3, if_pos c_5])), rfl, (congrArg (fun q => wm q r) (by show _ = _; rw [S_X12_share, if_neg c_2, if_neg c_3, if_pos c_5]))⟩
      · skip
        refine v_iconst (v := 0) (pc := 40) C dX12_share_40 rfl ?_
        refine v_goto (tgt := 45) (pc := 41) C dX12_share_41 (by decide) ?_
        refine v_callV (pc := 45) C (40, 0) ck_40 rfl (c_X12_isWrong hG (0) ) 1 wd_1531 wd_68 wd_1528 wd_1530 wd_35 (by decide +kernel) (by decide) (by decide) rfl ([]) rfl (Nat.le_of_ble_eq_true rfl) (by decide) dX12_share_45 (fun _ _ _ q => q.elim) (fun v9 A9 h9 hR9 => ?_)
        obtain ⟨rfl, hA9, rfl⟩ := hR9
        obtain rfl := hA9.symm
        refine v_st (k2 := 0) (n2 := 0) (st2 := [.int ((V_X12_isWrong g (0)))]) rfl rfl rfl ?_
        refine v_if_eq (pc := 48) (tgt := 53) C dX12_share_48 (by decide) (fun c_7 => ?_) (fun c_7 => ?_)
        · skip
          refine v_lconst (v := 0) (pc := 53) C dX12_share_53 rfl ?_
          refine v_lstore_n (lv2 := [(3, .long (0)), (0, .ref (A (40, 0))), (1, .int (u)), (2, .int (x))]) (pc := 54) C dX12_share_54 rfl (by decide) rfl ?_
          refine v_aload_n (pc := 55) C dX12_share_55 1 rfl rfl ?_
          refine v_get (pc := 56) C (40, 0) (v := .ref (A (46, 0))) ck_40 rfl 6 (by decide) inX12 wd_1394 rfl rfl dX12_share_56 ?_
          refine v_iload_n (pc := 59) C dX12_share_59 2 rfl rfl ?_
          refine v_iald (pc := 60) C (46, 0) (v := (g 46 (u).toNatClampNeg 0)) ck_46 (by (try simp only [Int32.le_iff_toInt_le, Int32.lt_iff_toInt_lt, ← Int32.toInt_inj, vp_in_iff, Int32.reduceToInt] at c_2 c_3 c_5 c_7 b_1 b_4 hu hg hf ⊢) <;> omega) (F_X12_isWrong (by decide)) dX12_share_60 ?_
          refine v_iconst (v := 1) (pc := 61) C dX12_share_61 rfl ?_
          refine v_isub (pc := 62) C dX12_share_62 ?_
          refine v_istore (lv2 := [(5, .int (((g 46 (u).toNatClampNeg 0) - 1))), (3, .long (0)), (0, .ref (A (40, 0))), (1, .int (u)), (2, .int (x))]) (pc := 63) C dX12_share_63 (by decide) rfl ?_
          have L_65 : ∀ (n : Nat) (x_65_5 : Int32) (x_65_3 : Int64) (q_65 : vS), (x_65_5 + 1).toNatClampNeg + 1 ≤ n → (∀ (c i j : Nat), c ≠ 1 → q_65 c i j = g c i j) → -1 ≤ (x_65_5).toInt ∧ (x_65_5).toInt ≤ 8 → (V_X12_share g u x) = VL_X12_share_65 g u x n x_65_5 x_65_3 q_65 → (S_X12_share g u x) = SL_X12_share_65 g u x n x_65_5 x_65_3 q_65 → V G 8 X A (wm q_65 r) 0 0 (vM G X (fun v A2 h2 => v = some (.int (V_X12_share g u x)) ∧ A2 = A ∧ h2 = wm (S_X12_share g u x) r) (vNoX) 0 0) 65 [(5, .int (x_65_5)), (3, .long (x_65_3)), (0, .ref (A (40, 0))), (1, .int (u)), (2, .int (x))] [] := by
            intro n
            induction n with
            | zero => intro x_65_5 x_65_3 q_65 hc_65 hF_65 hj_65 eV_65 eS_65; exact absurd hc_65 (by omega)
            | succ n ih =>
              intro x_65_5 x_65_3 q_65 hc_65 hF_65 hj_65 eV_65 eS_65
              refine v_iload (pc := 65) C dX12_share_65 0 rfl ?_
              refine v_if_lt (pc := 67) (tgt := 122) C dX12_share_67 (by decide) (fun c_8 => ?_) (fun c_8 => ?_)
              · skip
                refine v_lload_n (pc := 122) C dX12_share_122 1 rfl rfl ?_
                refine v_l2i (pc := 123) C dX12_share_123 rfl ?_
                exact v_iret (pc := 124) C (by decide) (by decide) dX12_share_124 ⟨(congrArg (fun q => some (Value.int q)) (by show _ = _; rw [eV_65, VL_X12_share_65, if_pos c_8])), rfl, (congrArg (fun q => wm q r) (by show _ = _; rw [eS_65, SL_X12_share_65, if_pos c_8]))⟩
              · skip
                refine v_iload (pc := 70) C dX12_share_70 0 rfl ?_
                refine v_if_ne (pc := 72) (tgt := 85) C dX12_share_72 (by decide) (fun c_9 => ?_) (fun c_9 => ?_)
                · skip
                  refine v_iconst (v := 3) (pc := 85) C dX12_share_85 rfl ?_
                  refine v_iload_n (pc := 86) C dX12_share_86 3 rfl rfl ?_
                  refine v_callS (pc := 87) C (c_X12_mix hG (3) (u)) 2 wd_1554 wd_68 wd_1552 wd_1553 (by decide +kernel) (by decide) (by decide) rfl ([]) rfl (Nat.le_of_ble_eq_true rfl) (by decide) dX12_share_87 (fun _ _ _ q => q.elim) (fun v9 A9 h9 hR9 => ?_)
                  obtain ⟨rfl, hA9, rfl⟩ := hR9
                  obtain rfl := hA9.symm
                  refine v_st (k2 := 0) (n2 := 0) (st2 := [.int (pMix (3) (u))]) rfl rfl rfl ?_
                  refine v_iload (pc := 90) C dX12_share_90 0 rfl ?_
                  refine v_callS (pc := 92) C (c_X12_mix hG (pMix (3) (u)) (x_65_5)) 2 wd_1554 wd_68 wd_1552 wd_1553 (by decide +kernel) (by decide) (by decide) rfl ([]) rfl (Nat.le_of_ble_eq_true rfl) (by decide) dX12_share_92 (fun _ _ _ q => q.elim) (fun v9 A9 h9 hR9 => ?_)
                  obtain ⟨rfl, hA9, rfl⟩ := hR9
                  obtain rfl := hA9.symm
                  refine v_st (k2 := 0) (n2 := 0) (st2 := [.int (pMix (pMix (3) (u)) (x_65_5))]) rfl rfl rfl ?_
                  refine v_ldcw (v := 65521) (pc := 95) C dX12_share_95 wd_1810 ?_
                  refine v_callS (pc := 98) C (c_J9_floorMod_7cf53 hG q_65 (pMix (pMix (3) (u)) (x_65_5)) (65521) (by decide)) 2 wd_1189 wd_85 wd_1811 wd_1188 (by decide +kernel) (by decide) (by decide) rfl ([]) rfl (Nat.le_of_ble_eq_true rfl) (by decide) dX12_share_98 (fun _ _ _ q => q.elim) (fun v9 A9 h9 hR9 => ?_)
                  obtain ⟨rfl, hA9, rfl⟩ := hR9
                  obtain rfl := hA9.symm
                  refine v_st (k2 := 0) (n2 := 0) (st2 := [.int ((V_J9_floorMod_7cf53 q_65 (pMix (pMix (3) (u)) (x_65_5)) (65521)))]) rfl rfl rfl ?_
                  refine v_i2l (pc := 101) C dX12_share_101 rfl ?_
                  refine v_lstore (lv2 := [(6, .long (((V_J9_floorMod_7cf53 q_65 (pMix (pMix (3) (u)) (x_65_5)) (65521)) : Int32).toInt64)), (5, .int (x_65_5)), (3, .long (x_65_3)), (0, .ref (A (40, 0))), (1, .int (u)), (2, .int (x))]) (pc := 102) C dX12_share_102 (by decide) rfl ?_
                  refine v_lload_n (pc := 104) C dX12_share_104 2 rfl rfl ?_
                  refine v_iload_n (pc := 105) C dX12_share_105 5 rfl rfl ?_
                  refine v_i2l (pc := 106) C dX12_share_106 rfl ?_
                  refine v_lmul (pc := 107) C dX12_share_107 ?_
                  refine v_lload (pc := 108) C dX12_share_108 0 rfl ?_
                  refine v_ladd (pc := 110) C dX12_share_110 ?_
                  refine v_ldc2 (v := 65521) (pc := 111) C dX12_share_111 wd_1812 ?_
                  refine v_lrem (pc := 114) C dX12_share_114 (by decide) ?_
                  refine v_lstore_n (lv2 := [(3, .long ((((x_65_3 * (x : Int32).toInt64) + ((V_J9_floorMod_7cf53 q_65 (pMix (pMix (3) (u)) (x_65_5)) (65521)) : Int32).toInt64) - ((x_65_3 * (x : Int32).toInt64) + ((V_J9_floorMod_7cf53 q_65 (pMix (pMix (3) (u)) (x_65_5)) (65521)) : Int32).toInt64) / 65521 * 65521))), (6, .long (((V_J9_floorMod_7cf53 q_65 (pMix (pMix (3) (u)) (x_65_5)) (65521)) : Int32).toInt64)), (5, .int (x_65_5)), (0, .ref (A (40, 0))), (1, .int (u)), (2, .int (x))]) (pc := 115) C dX12_share_115 rfl (by decide) rfl ?_
                  refine v_iinc (v := (x_65_5 + -1)) (lv2 := [(5, .int ((x_65_5 + -1))), (3, .long ((((x_65_3 * (x : Int32).toInt64) + ((V_J9_floorMod_7cf53 q_65 (pMix (pMix (3) (u)) (x_65_5)) (65521)) : Int32).toInt64) - ((x_65_3 * (x : Int32).toInt64) + ((V_J9_floorMod_7cf53 q_65 (pMix (pMix (3) (u)) (x_65_5)) (65521)) : Int32).toInt64) / 65521 * 65521))), (6, .long (((V_J9_floorMod_7cf53 q_65 (pMix (pMix (3) (u)) (x_65_5)) (65521)) : Int32).toInt64)), (0, .ref (A (40, 0))), (1, .int (u)), (2, .int (x))]) (pc := 116) C dX12_share_116 2 rfl rfl (by decide) rfl ?_
                  refine v_goto (tgt := 65) (pc := 119) C dX12_share_119 (by decide) ?_
                  refine v_lv (lv2 := [(5, .int ((x_65_5 + -1))), (3, .long ((((x_65_3 * (x : Int32).toInt64) + ((V_J9_floorMod_7cf53 q_65 (pMix (pMix (3) (u)) (x_65_5)) (65521)) : Int32).toInt64) - ((x_65_3 * (x : Int32).toInt64) + ((V_J9_floorMod_7cf53 q_65 (pMix (pMix (3) (u)) (x_65_5)) (65521)) : Int32).toInt64) / 65521 * 65521))), (0, .ref (A (40, 0))), (1, .int (u)), (2, .int (x))]) [0, 1, 3, 4, 5] rfl ?_
                  exact ih ((x_65_5 + -1)) ((((x_65_3 * (x : Int32).toInt64) + ((V_J9_floorMod_7cf53 q_65 (pMix (pMix (3) (u)) (x_65_5)) (65521)) : Int32).toInt64) - ((x_65_3 * (x : Int32).toInt64) + ((V_J9_floorMod_7cf53 q_65 (pMix (pMix (3) (u)) (x_65_5)) (65521)) : Int32).toInt64) / 65521 * 65521)) q_65  (Nat.le_of_add_le_add_right (Nat.le_trans (Nat.add_le_add_right (sh_step c_8 hj_65).1 1) hc_65)) (fun c i j h1 => hF_65 c i j h1) (sh_step c_8 hj_65).2 (by rw [eV_65, VL_X12_share_65, if_neg c_8, if_neg c_9]) (by rw [eS_65, SL_X12_share_65, if_neg c_8, if_neg c_9])
                · skip
                  refine v_aload_n (pc := 75) C dX12_share_75 2 rfl rfl ?_
                  refine v_get (pc := 76) C (40, 0) (v := .ref (A (41, 0))) ck_40 rfl 1 (by decide) inX12 wd_1389 rfl rfl dX12_share_76 ?_
                  refine v_iload_n (pc := 79) C dX12_share_79 3 rfl rfl ?_
                  refine v_iald (pc := 80) C (41, 0) (v := (g 41 (u).toNatClampNeg 0)) ck_41 (by (try simp only [Int32.le_iff_toInt_le, Int32.lt_iff_toInt_lt, ← Int32.toInt_inj, vp_in_iff, Int32.reduceToInt] at c_2 c_3 c_5 c_7 c_8 c_9 b_1 b_4 hu hg hf ⊢) <;> omega) (hF_65 _ _ _ (by decide)) dX12_share_80 ?_
                  refine v_i2l (pc := 81) C dX12_share_81 rfl ?_
                  refine v_goto (tgt := 102) (pc := 82) C dX12_share_82 (by decide) ?_
                  refine v_lstore (lv2 := [(6, .long (((g 41 (u).toNatClampNeg 0) : Int32).toInt64)), (5, .int (x_65_5)), (3, .long (x_65_3)), (0, .ref (A (40, 0))), (1, .int (u)), (2, .int (x))]) (pc := 102) C dX12_share_102 (by decide) rfl ?_
                  refine v_lload_n (pc := 104) C dX12_share_104 2 rfl rfl ?_
                  refine v_iload_n (pc := 105) C dX12_share_105 5 rfl rfl ?_
                  refine v_i2l (pc := 106) C dX12_share_106 rfl ?_
                  refine v_lmul (pc := 107) C dX12_share_107 ?_
                  refine v_lload (pc := 108) C dX12_share_108 0 rfl ?_
                  refine v_ladd (pc := 110) C dX12_share_110 ?_
                  refine v_ldc2 (v := 65521) (pc := 111) C dX12_share_111 wd_1812 ?_
                  refine v_lrem (pc := 114) C dX12_share_114 (by decide) ?_
                  refine v_lstore_n (lv2 := [(3, .long ((((x_65_3 * (x : Int32).toInt64) + ((g 41 (u).toNatClampNeg 0) : Int32).toInt64) - ((x_65_3 * (x : Int32).toInt64) + ((g 41 (u).toNatClampNeg 0) : Int32).toInt64) / 65521 * 65521))), (6, .long (((g 41 (u).toNatClampNeg 0) : Int32).toInt64)), (5, .int (x_65_5)), (0, .ref (A (40, 0))), (1, .int (u)), (2, .int (x))]) (pc := 115) C dX12_share_115 rfl (by decide) rfl ?_
                  refine v_iinc (v := (x_65_5 + -1)) (lv2 := [(5, .int ((x_65_5 + -1))), (3, .long ((((x_65_3 * (x : Int32).toInt64) + ((g 41 (u).toNatClampNeg 0) : Int32).toInt64) - ((x_65_3 * (x : Int32).toInt64) + ((g 41 (u).toNatClampNeg 0) : Int32).toInt64) / 65521 * 65521))), (6, .long (((g 41 (u).toNatClampNeg 0) : Int32).toInt64)), (0, .ref (A (40, 0))), (1, .int (u)), (2, .int (x))]) (pc := 116) C dX12_share_116 2 rfl rfl (by decide) rfl ?_
                  refine v_goto (tgt := 65) (pc := 119) C dX12_share_119 (by decide) ?_
                  refine v_lv (lv2 := [(5, .int ((x_65_5 + -1))), (3, .long ((((x_65_3 * (x : Int32).toInt64) + ((g 41 (u).toNatClampNeg 0) : Int32).toInt64) - ((x_65_3 * (x : Int32).toInt64) + ((g 41 (u).toNatClampNeg 0) : Int32).toInt64) / 65521 * 65521))), (0, .ref (A (40, 0))), (1, .int (u)), (2, .int (x))]) [0, 1, 3, 4, 5] rfl ?_
                  exact ih ((x_65_5 + -1)) ((((x_65_3 * (x : Int32).toInt64) + ((g 41 (u).toNatClampNeg 0) : Int32).toInt64) - ((x_65_3 * (x : Int32).toInt64) + ((g 41 (u).toNatClampNeg 0) : Int32).toInt64) / 65521 * 65521)) q_65  (Nat.le_of_add_le_add_right (Nat.le_trans (Nat.add_le_add_right (sh_step c_8 hj_65).1 1) hc_65)) (fun c i j h1 => hF_65 c i j h1) (sh_step c_8 hj_65).2 (by rw [eV_65, VL_X12_share_65, if_neg c_8, if_pos c_9]) (by rw [eS_65, SL_X12_share_65, if_neg c_8, if_pos c_9])
          exact L_65 (9 + 1) (((g 46 (u).toNatClampNeg 0) - 1)) (0) (S_X12_isWrong g (0))  (sh_init (h5 _)).1 (fun c i j h1 => F_X12_isWrong h1) (sh_init (h5 _)).2 (by rw [V_X12_share, if_neg c_2, if_neg c_3, if_neg c_5]) (by rw [S_X12_share, if_neg c_2, if_neg c_3, if_neg c_5])
        · skip
          exact absurd c_7 (fun q9 => q9 ((show (0 : Int32) = 0 from rfl)))
    · skip
      refine v_iconst (v := 2) (pc := 22) C dX12_share_22 rfl ?_
      refine v_goto (tgt := 45) (pc := 23) C dX12_share_23 (by decide) ?_
      refine v_callV (pc := 45) C (40, 0) ck_40 rfl (c_X12_isWrong hG (2) ) 1 wd_1531 wd_68 wd_1528 wd_1530 wd_35 (by decide +kernel) (by decide) (by decide) rfl ([]) rfl (Nat.le_of_ble_eq_true rfl) (by decide) dX12_share_45 (fun _ _ _ q => q.elim) (fun v9 A9 h9 hR9 => ?_)
      obtain ⟨rfl, hA9, rfl⟩ := hR9
      obtain rfl := hA9.symm
      refine v_st (k2 := 0) (n2 := 0) (st2 := [.int ((V_X12_isWrong g (2)))]) rfl rfl rfl ?_
      refine v_if_eq (pc := 48) (tgt := 53) C dX12_share_48 (by decide) (fun c_10 => ?_) (fun c_10 => ?_)
      · skip
        exact absurd c_10 (fun q9 => ((show ¬ (1 : Int32) = 0 from by decide)) q9)
      · skip
        refine v_iconst (v := 0) (pc := 51) C dX12_share_51 rfl ?_
        exact v_iret (pc := 52) C (by decide) (by decide) dX12_share_52 ⟨(congrArg (fun q => some (Value.int q)) (by show _ = _; rw [V_X12_share, if_neg c_2, if_pos c_3])), rfl, (congrArg (fun q => wm q r) (by show _ = _; rw [S_X12_share, if_neg c_2, if_pos c_3]))⟩
  · skip
    refine v_iconst (v := 1) (pc := 9) C dX12_share_9 rfl ?_
    refine v_goto (tgt := 45) (pc := 10) C dX12_share_10 (by decide) ?_
    refine v_callV (pc := 45) C (40, 0) ck_40 rfl (c_X12_isWrong hG (1) ) 1 wd_1531 wd_68 wd_1528 wd_1530 wd_35 (by decide +kernel) (by decide) (by decide) rfl ([]) rfl (Nat.le_of_ble_eq_true rfl) (by decide) dX12_share_45 (fun _ _ _ q => q.elim) (fun v9 A9 h9 hR9 => ?_)
    obtain ⟨rfl, hA9, rfl⟩ := hR9
    obtain rfl := hA9.symm
    refine v_st (k2 := 0) (n2 := 0) (st2 := [.int ((V_X12_isWrong g (1)))]) rfl rfl rfl ?_
    refine v_if_eq (pc := 48) (tgt := 53) C dX12_share_48 (by decide) (fun c_11 => ?_) (fun c_11 => ?_)
    · skip
      exact absurd c_11 (fun q9 => ((show ¬ (1 : Int32) = 0 from by decide)) q9)
    · skip
      refine v_iconst (v := 0) (pc := 51) C dX12_share_51 rfl ?_
      exact v_iret (pc := 52) C (by decide) (by decide) dX12_share_52 ⟨(congrArg (fun q => some (Value.int q)) (by show _ = _; rw [V_X12_share, if_pos c_2])), rfl, (congrArg (fun q => wm q r) (by show _ = _; rw [S_X12_share, if_pos c_2]))⟩
/-- a group that is there has a quota from 1 to 40 -/
def vM6 (g : vS) : Prop := ∀ i : Nat, (i : Int) < (g 3 0 0).toInt → 1 ≤ (g 49 i 0).toInt ∧ (g 49 i 0).toInt ≤ 40
theorem vM6_k {g G : vS} (h : ∀ i j, G 3 i j = g 3 i j) (h2 : ∀ i j, G 49 i j = g 49 i j) (q : vM6 g) : vM6 G := fun i hi => by rw [h2]; rw [h] at hi; exact q i hi
theorem vFin_q3 {x : Int32} (h : 1 ≤ x.toInt ∧ x.toInt ≤ 40) : vFin32 (FP.i2f x) = true := vFin_q (fun q => by rw [Int32.le_iff_toInt_le, show (0 : Int32).toInt = 0 from by decide] at q; omega) (by rw [Int32.le_iff_toInt_le, show (40 : Int32).toInt = 40 from by decide]; omega)
def V_X12_load (g : vS) (x : Int32) : UInt32 := (if (V_X12_isGroup g (x)) = 0 then FP.fconst0 else (FP.fdiv (FP.i2f (V_X12_partsIn (S_X12_isWrong g (0)) (x))) (FP.i2f (g 49 (x).toNatClampNeg 0))))
def S_X12_load (g : vS) (x : Int32) : vS := (if (V_X12_isGroup g (x)) = 0 then (S_X12_isWrong g (1)) else (S_X12_isWrong g (0)))
theorem F_X12_load {g : vS} {x : Int32} {c i j : Nat} (h1 : c ≠ 1) : S_X12_load g x c i j = g c i j := by
  unfold S_X12_load
  (repeat' split) <;> first | rfl | ((simp only [s3_k h1, F_X12_isWrong h1]) <;> first | done | rfl)
set_option maxHeartbeats 4000000 in
set_option maxRecDepth 100000 in
theorem c_X12_load {G : vG} (hG : G.1.stackTraces = false) {A : vN → Nat} {g : vS} {r : vH} (x : Int32) (hu0 : 0 ≤ (g 2 0 0).toInt) (hu : (g 2 0 0).toInt ≤ 6) (hg0 : 0 ≤ (g 3 0 0).toInt) (hg : (g 3 0 0).toInt ≤ 5) (hf0 : 0 ≤ (g 4 0 0).toInt) (hf : (g 4 0 0).toInt ≤ 20) (h6 : vM6 g) : vCt G yX12_load cX12_load 2 (some .float) 2 [.ref (A (40, 0)), .int (x)] A (wm g r) (fun v A2 h2 => v = some (.float (V_X12_load g x)) ∧ A2 = A ∧ h2 = wm (S_X12_load g x) r) (vNoX) 0 0 := by
  refine v_of hG (by decide +kernel) (Nat.le_of_ble_eq_true rfl) (lv := [(0, .ref (A (40, 0))), (1, .int (x))]) rfl (fun X C hnx => ?_)
  have C : vC G X cX12_load 2 RX12 (some .float) "load" 2 0 0 := C
  refine v_aload_n (pc := 0) C dX12_load_0 0 rfl rfl ?_
  refine v_aload_n (pc := 1) C dX12_load_1 0 rfl rfl ?_
  refine v_iload_n (pc := 2) C dX12_load_2 1 rfl rfl ?_
  refine v_callV (pc := 3) C (40, 0) ck_40 rfl (c_X12_isGroup hG (x) ) 1 wd_1547 wd_68 wd_1544 wd_1546 wd_37 (by decide +kernel) (by decide) (by decide) rfl ([.ref (A (40, 0))]) rfl (Nat.le_of_ble_eq_true rfl) (by decide) dX12_load_3 (fun _ _ _ q => q.elim) (fun v9 A9 h9 hR9 => ?_)
  obtain ⟨rfl, hA9, rfl⟩ := hR9
  obtain rfl := hA9.symm
  refine v_st (k2 := 0) (n2 := 0) (st2 := [.int ((V_X12_isGroup g (x))), .ref (A (40, 0))]) rfl rfl rfl ?_
  have b_1 := ok_isGroup (g := g) (x := x) hg0
  refine v_if_eq (pc := 6) (tgt := 13) C dX12_load_6 (by decide) (fun c_2 => ?_) (fun c_2 => ?_)
  · skip
    refine v_iconst (v := 1) (pc := 13) C dX12_load_13 rfl ?_
    refine v_callV (pc := 14) C (40, 0) ck_40 rfl (c_X12_isWrong hG (1) ) 1 wd_1531 wd_68 wd_1528 wd_1530 wd_35 (by decide +kernel) (by decide) (by decide) rfl ([]) rfl (Nat.le_of_ble_eq_true rfl) (by decide) dX12_load_14 (fun _ _ _ q => q.elim) (fun v9 A9 h9 hR9 => ?_)
    obtain ⟨rfl, hA9, rfl⟩ := hR9
    obtain rfl := hA9.symm
    refine v_st (k2 := 0) (n2 := 0) (st2 := [.int ((V_X12_isWrong g (1)))]) rfl rfl rfl ?_
    refine v_if_eq (pc := 17) (tgt := 24) C dX12_load_17 (by decide) (fun c_3 => ?_) (fun c_3 => ?_)
    · skip
      exact absurd c_3 (fun q9 => ((show ¬ (1 : Int32) = 0 from by decide)) q9)
    · skip
      refine v_fconst0 (pc := 20) C dX12_load_20 ?_
      refine v_goto (tgt := 38) (pc := 21) C dX12_load_21 (by decide) ?_
      exact v_fret (pc := 38) C (by decide) (by decide) dX12_load_38 ⟨(congrArg (fun q => some (Value.float q)) (by show _ = _; rw [V_X12_load, if_pos c_2])), rfl, (congrArg (fun q => wm q r) (by show _ = _; rw [S_X12_load, if_pos c_2]))⟩
  · skip
    refine v_iconst (v := 0) (pc := 9) C dX12_load_9 rfl ?_
    refine v_goto (tgt := 14) (pc := 10) C dX12_load_10 (by decide) ?_
    refine v_callV (pc := 14) C (40, 0) ck_40 rfl (c_X12_isWrong hG (0) ) 1 wd_1531 wd_68 wd_1528 wd_1530 wd_35 (by decide +kernel) (by decide) (by decide) rfl ([]) rfl (Nat.le_of_ble_eq_true rfl) (by decide) dX12_load_14 (fun _ _ _ q => q.elim) (fun v9 A9 h9 hR9 => ?_)
    obtain ⟨rfl, hA9, rfl⟩ := hR9
    obtain rfl := hA9.symm
    refine v_st (k2 := 0) (n2 := 0) (st2 := [.int ((V_X12_isWrong g (0)))]) rfl rfl rfl ?_
    refine v_if_eq (pc := 17) (tgt := 24) C dX12_load_17 (by decide) (fun c_4 => ?_) (fun c_4 => ?_)
    · skip
      refine v_aload_n (pc := 24) C dX12_load_24 0 rfl rfl ?_
      refine v_iload_n (pc := 25) C dX12_load_25 1 rfl rfl ?_
      refine v_callV (pc := 26) C (40, 0) ck_40 rfl (c_X12_partsIn hG (x) (by rw [show (S_X12_isWrong g (0)) 2 0 0 = g 2 0 0 from F_X12_isWrong (by decide)]; exact hu0) (by rw [show (S_X12_isWrong g (0)) 2 0 0 = g 2 0 0 from F_X12_isWrong (by decide)]; exact hu) (by rw [show (S_X12_isWrong g (0)) 3 0 0 = g 3 0 0 from F_X12_isWrong (by decide)]; exact hg0) (by rw [show (S_X12_isWrong g (0)) 3 0 0 = g 3 0 0 from F_X12_isWrong (by decide)]; exact hg) (by rw [show (S_X12_isWrong g (0)) 4 0 0 = g 4 0 0 from F_X12_isWrong (by decide)]; exact hf0) (by rw [show (S_X12_isWrong g (0)) 4 0 0 = g 4 0 0 from F_X12_isWrong (by decide)]; exact hf)) 1 wd_1624 wd_68 wd_1621 wd_1623 wd_47 (by decide +kernel) (by decide) (by decide) rfl ([]) rfl (Nat.le_of_ble_eq_true rfl) (by decide) dX12_load_26 (fun _ _ _ q => q.elim) (fun v9 A9 h9 hR9 => ?_)
      obtain ⟨rfl, hA9, rfl⟩ := hR9
      obtain rfl := hA9.symm
      refine v_st (k2 := 0) (n2 := 0) (st2 := [.int ((V_X12_partsIn (S_X12_isWrong g (0)) (x)))]) rfl rfl rfl ?_
      refine v_i2f (pc := 29) C dX12_load_29 ?_
      refine v_aload_n (pc := 30) C dX12_load_30 0 rfl rfl ?_
      refine v_get (pc := 31) C (40, 0) (v := .ref (A (49, 0))) ck_40 rfl 9 (by decide) inX12 wd_1397 rfl rfl dX12_load_31 ?_
      refine v_iload_n (pc := 34) C dX12_load_34 1 rfl rfl ?_
      refine v_iald (pc := 35) C (49, 0) (v := (g 49 (x).toNatClampNeg 0)) ck_49 (by (try simp only [Int32.le_iff_toInt_le, Int32.lt_iff_toInt_lt, ← Int32.toInt_inj, vp_in_iff, Int32.reduceToInt] at c_2 c_4 b_1 hu hg hf ⊢) <;> omega) (F_X12_isWrong (by decide)) dX12_load_35 ?_
      refine v_i2f (pc := 36) C dX12_load_36 ?_
      refine v_fdiv (pc := 37) C dX12_load_37 (fn32_div (y := (FP.i2f (g 49 (x).toNatClampNeg 0))) (fn32_int _) (vFin_q3 (h6 _ (by have hz : ((x.toNatClampNeg : Nat) : Int) = max x.toInt 0 := (by show ((x.toInt.toNat : Nat) : Int) = _; omega); (try simp only [Int32.le_iff_toInt_le, Int32.lt_iff_toInt_lt, ← Int32.toInt_inj, Int32.reduceToInt] at c_2 c_4 b_1 hu hg hf); omega)))) ?_
      exact v_fret (pc := 38) C (by decide) (by decide) dX12_load_38 ⟨(congrArg (fun q => some (Value.float q)) (by show _ = _; rw [V_X12_load, if_neg c_2])), rfl, (congrArg (fun q => wm q r) (by show _ = _; rw [S_X12_load, if_neg c_2]))⟩
    · skip
      exact absurd c_4 (fun q9 => q9 ((show (0 : Int32) = 0 from rfl)))
