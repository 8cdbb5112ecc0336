def V_X12_cannotWrite (g : vS) (u : Int32) (x : Int32) (y : Int32) : Int32 := (if (g 52 ((g 55 (x).toNatClampNeg 0)).toNatClampNeg (u).toNatClampNeg) = 0 then 3 else (if (g 63 (x).toNatClampNeg (y).toNatClampNeg) = 0 then (if (V_X12_partsIn g ((g 55 (x).toNatClampNeg 0))) < (g 49 ((g 55 (x).toNatClampNeg 0)).toNatClampNeg 0) then (if (g 47 (u).toNatClampNeg 0) = 0 then (if (g 68 (x).toNatClampNeg 0) = 0 then (if (V_X12_isSpoiled g (x)) = 0 then (if (V_X12_isFull g) = 0 then 0 else 4) else 4) else 4) else 4) else 4) else (if (g 47 (u).toNatClampNeg 0) = 0 then (if (g 68 (x).toNatClampNeg 0) = 0 then (if (V_X12_isSpoiled g (x)) = 0 then (if (V_X12_isFull g) = 0 then 0 else 4) else 4) else 4) else 4)))
set_option maxHeartbeats 4000000 in
set_option maxRecDepth 100000 in
theorem c_X12_cannotWrite {G : vG} (hG : G.1.stackTraces = false) {A : vN → Nat} {g : vS} {r : vH} (u : Int32) (x : Int32) (y : Int32) (hu0 : 0 ≤ (g 2 0 0).toInt) (hu : (g 2 0 0).toInt ≤ 6) (hg0 : 0 ≤ (g 3 0 0).toInt) (hg : (g 3 0 0).toInt ≤ 5) (hf0 : 0 ≤ (g 4 0 0).toInt) (hf : (g 4 0 0).toInt ≤ 20) (u_0 : 0 ≤ (u).toInt) (u_N : (u).toInt < 6) (x_0 : 0 ≤ (x).toInt) (x_N : (x).toInt < 20) (y_0 : 0 ≤ (y).toInt) (y_N : (y).toInt < 8) (h1 : vM1 g) (h2 : vM2 g) (h3 : vM3 g) : vCt G yX12_cannotWrite cX12_cannotWrite 6 (some .int) 4 [.ref (A (40, 0)), .int (u), .int (x), .int (y)] A (wm g r) (fun v A2 h2 => v = some (.int (V_X12_cannotWrite g u x y)) ∧ A2 = A ∧ h2 = wm g r) (vNoX) 0 0 := by
  refine v_of hG (by decide +kernel) (Nat.le_of_ble_eq_true rfl) (lv := [(0, .ref (A (40, 0))), (1, .int (u)), (2, .int (x)), (3, .int (y))]) rfl (fun X C hnx => ?_)
  have C : vC G X cX12_cannotWrite 6 RX12 (some .int) "cannotWrite" 4 0 0 := C
  refine v_aload_n (pc := 0) C dX12_cannotWrite_0 0 rfl rfl ?_
  refine v_get (pc := 1) C (40, 0) (v := .ref (A (55, 0))) ck_40 rfl 15 (by decide) inX12 wd_1400 rfl rfl dX12_cannotWrite_1 ?_
  refine v_iload_n (pc := 4) C dX12_cannotWrite_4 2 rfl rfl ?_
  refine v_iald (pc := 5) C (55, 0) (v := (g 55 (x).toNatClampNeg 0)) ck_55 (by (try simp only [Int32.le_iff_toInt_le, Int32.lt_iff_toInt_lt, ← Int32.toInt_inj, vp_in_iff, Int32.reduceToInt] at hu hg hf u_0 u_N x_0 x_N y_0 y_N ⊢) <;> omega) rfl dX12_cannotWrite_5 ?_
  have b_1 := h1 (x).toNatClampNeg
  refine v_istore (lv2 := [(4, .int ((g 55 (x).toNatClampNeg 0))), (0, .ref (A (40, 0))), (1, .int (u)), (2, .int (x)), (3, .int (y))]) (pc := 6) C dX12_cannotWrite_6 (by decide) rfl ?_
  refine v_aload_n (pc := 8) C dX12_cannotWrite_8 1 rfl rfl ?_
  refine v_get (pc := 9) C (40, 0) (v := .ref (A (51, 0))) ck_40 rfl 11 (by decide) inX12 wd_1396 rfl rfl dX12_cannotWrite_9 ?_
  refine v_iload (pc := 12) C dX12_cannotWrite_12 0 rfl ?_
  refine v_aald (pc := 14) C (51, 0) ck_51 rfl rfl (by (try simp only [Int32.le_iff_toInt_le, Int32.lt_iff_toInt_lt, ← Int32.toInt_inj, vp_in_iff, Int32.reduceToInt] at b_1 hu hg hf u_0 u_N x_0 x_N y_0 y_N ⊢) <;> omega) (52, ((g 55 (x).toNatClampNeg 0)).toNatClampNeg) rfl dX12_cannotWrite_14 ?_
  refine v_iload_n (pc := 15) C dX12_cannotWrite_15 2 rfl rfl ?_
  refine v_zald (pc := 16) C (52, ((g 55 (x).toNatClampNeg 0)).toNatClampNeg) (v := (g 52 ((g 55 (x).toNatClampNeg 0)).toNatClampNeg (u).toNatClampNeg)) (ck_52 (g := g) (tn_lt (by (try simp only [Int32.le_iff_toInt_le, Int32.lt_iff_toInt_lt, ← Int32.toInt_inj, Int32.reduceToInt] at b_1 hu hg hf u_0 u_N x_0 x_N y_0 y_N ⊢); omega))) (by (try simp only [Int32.le_iff_toInt_le, Int32.lt_iff_toInt_lt, ← Int32.toInt_inj, vp_in_iff, Int32.reduceToInt] at b_1 hu hg hf u_0 u_N x_0 x_N y_0 y_N ⊢) <;> omega) rfl dX12_cannotWrite_16 ?_
  refine v_if_ne (pc := 17) (tgt := 22) C dX12_cannotWrite_17 (by decide) (fun c_2 => ?_) (fun c_2 => ?_)
  · skip
    refine v_aload_n (pc := 22) C dX12_cannotWrite_22 1 rfl rfl ?_
    refine v_get (pc := 23) C (40, 0) (v := .ref (A (62, 0))) ck_40 rfl 20 (by decide) inX12 wd_1405 rfl rfl dX12_cannotWrite_23 ?_
    refine v_iload_n (pc := 26) C dX12_cannotWrite_26 3 rfl rfl ?_
    refine v_aald (pc := 27) C (62, 0) ck_62 rfl rfl (by (try simp only [Int32.le_iff_toInt_le, Int32.lt_iff_toInt_lt, ← Int32.toInt_inj, vp_in_iff, Int32.reduceToInt] at c_2 b_1 hu hg hf u_0 u_N x_0 x_N y_0 y_N ⊢) <;> omega) (63, (x).toNatClampNeg) rfl dX12_cannotWrite_27 ?_
    refine v_iload_n (pc := 28) C dX12_cannotWrite_28 4 rfl rfl ?_
    refine v_iald (pc := 29) C (63, (x).toNatClampNeg) (v := (g 63 (x).toNatClampNeg (y).toNatClampNeg)) (ck_63 (g := g) (tn_lt (by (try simp only [Int32.le_iff_toInt_le, Int32.lt_iff_toInt_lt, ← Int32.toInt_inj, Int32.reduceToInt] at c_2 b_1 hu hg hf u_0 u_N x_0 x_N y_0 y_N ⊢); omega))) (by (try simp only [Int32.le_iff_toInt_le, Int32.lt_iff_toInt_lt, ← Int32.toInt_inj, vp_in_iff, Int32.reduceToInt] at c_2 b_1 hu hg hf u_0 u_N x_0 x_N y_0 y_N ⊢) <;> omega) rfl dX12_cannotWrite_29 ?_
    refine v_if_ne (pc := 30) (tgt := 53) C dX12_cannotWrite_30 (by decide) (fun c_3 => ?_) (fun c_3 => ?_)
    · skip
      refine v_iconst (v := 0) (pc := 53) C dX12_cannotWrite_53 rfl ?_
      refine v_istore (lv2 := [(5, .int (0)), (4, .int ((g 55 (x).toNatClampNeg 0))), (0, .ref (A (40, 0))), (1, .int (u)), (2, .int (x)), (3, .int (y))]) (pc := 54) C dX12_cannotWrite_54 (by decide) rfl ?_
      refine v_aload_n (pc := 56) C dX12_cannotWrite_56 2 rfl rfl ?_
      refine v_get (pc := 57) C (40, 0) (v := .ref (A (47, 0))) ck_40 rfl 7 (by decide) inX12 wd_1392 rfl rfl dX12_cannotWrite_57 ?_
      refine v_iload_n (pc := 60) C dX12_cannotWrite_60 3 rfl rfl ?_
      refine v_zald (pc := 61) C (47, 0) (v := (g 47 (u).toNatClampNeg 0)) ck_47 (by (try simp only [Int32.le_iff_toInt_le, Int32.lt_iff_toInt_lt, ← Int32.toInt_inj, vp_in_iff, Int32.reduceToInt] at c_2 c_3 b_1 hu hg hf u_0 u_N x_0 x_N y_0 y_N ⊢) <;> omega) rfl dX12_cannotWrite_61 ?_
      refine v_if_ne (pc := 62) (tgt := 94) C dX12_cannotWrite_62 (by decide) (fun c_4 => ?_) (fun c_4 => ?_)
      · skip
        refine v_iconst (v := 4) (pc := 94) C dX12_cannotWrite_94 rfl ?_
        refine v_goto (tgt := 99) (pc := 95) C dX12_cannotWrite_95 (by decide) ?_
        exact v_iret (pc := 99) C (by decide) (by decide) dX12_cannotWrite_99 ⟨(congrArg (fun q => some (Value.int q)) (by show _ = _; rw [V_X12_cannotWrite, if_neg c_2, if_neg c_3, if_neg c_4])), rfl, rfl⟩
      · skip
        refine v_aload_n (pc := 65) C dX12_cannotWrite_65 2 rfl rfl ?_
        refine v_get (pc := 66) C (40, 0) (v := .ref (A (68, 0))) ck_40 rfl 23 (by decide) inX12 wd_1408 rfl rfl dX12_cannotWrite_66 ?_
        refine v_iload_n (pc := 69) C dX12_cannotWrite_69 4 rfl rfl ?_
        refine v_zald (pc := 70) C (68, 0) (v := (g 68 (x).toNatClampNeg 0)) ck_68 (by (try simp only [Int32.le_iff_toInt_le, Int32.lt_iff_toInt_lt, ← Int32.toInt_inj, vp_in_iff, Int32.reduceToInt] at c_2 c_3 c_4 b_1 hu hg hf u_0 u_N x_0 x_N y_0 y_N ⊢) <;> omega) rfl dX12_cannotWrite_70 ?_
        refine v_if_ne (pc := 71) (tgt := 94) C dX12_cannotWrite_71 (by decide) (fun c_5 => ?_) (fun c_5 => ?_)
        · skip
          refine v_iconst (v := 4) (pc := 94) C dX12_cannotWrite_94 rfl ?_
          refine v_goto (tgt := 99) (pc := 95) C dX12_cannotWrite_95 (by decide) ?_
          exact v_iret (pc := 99) C (by decide) (by decide) dX12_cannotWrite_99 ⟨(congrArg (fun q => some (Value.int q)) (by show _ = _; rw [V_X12_cannotWrite, if_neg c_2, if_neg c_3, if_pos c_4, if_neg c_5])), rfl, rfl⟩
        · skip
          refine v_aload_n (pc := 74) C dX12_cannotWrite_74 2 rfl rfl ?_
          refine v_iload_n (pc := 75) C dX12_cannotWrite_75 4 rfl rfl ?_
          refine v_callV (pc := 76) C (40, 0) ck_40 rfl (c_X12_isSpoiled hG (x) hu0 hu hg0 hg hf0 hf (by (try simp only [Int32.le_iff_toInt_le, Int32.lt_iff_toInt_lt, ← Int32.toInt_inj, Int32.reduceToInt] at c_2 c_3 c_4 c_5 b_1 hu hg hf u_0 u_N x_0 x_N y_0 y_N ⊢); omega) (by (try simp only [Int32.le_iff_toInt_le, Int32.lt_iff_toInt_lt, ← Int32.toInt_inj, Int32.reduceToInt] at c_2 c_3 c_4 c_5 b_1 hu hg hf u_0 u_N x_0 x_N y_0 y_N ⊢); omega)) 1 wd_1567 wd_68 wd_1564 wd_1566 wd_40 (by decide +kernel) (by decide) (by decide) rfl ([]) rfl (Nat.le_of_ble_eq_true rfl) (by decide) dX12_cannotWrite_76 (fun _ _ _ q => q.elim) (fun v9 A9 h9 hR9 => ?_)
          obtain ⟨rfl, hA9, rfl⟩ := hR9
          obtain rfl := hA9.symm
          refine v_st (k2 := 0) (n2 := 0) (st2 := [.int ((V_X12_isSpoiled g (x)))]) rfl rfl rfl ?_
          refine v_if_ne (pc := 79) (tgt := 94) C dX12_cannotWrite_79 (by decide) (fun c_6 => ?_) (fun c_6 => ?_)
          · skip
            refine v_iconst (v := 4) (pc := 94) C dX12_cannotWrite_94 rfl ?_
            refine v_goto (tgt := 99) (pc := 95) C dX12_cannotWrite_95 (by decide) ?_
            exact v_iret (pc := 99) C (by decide) (by decide) dX12_cannotWrite_99 ⟨(congrArg (fun q => some (Value.int q)) (by show _ = _; rw [V_X12_cannotWrite, if_neg c_2, if_neg c_3, if_pos c_4, if_pos c_5, if_neg c_6])), rfl, rfl⟩
          · skip
            refine v_iload (pc := 82) C dX12_cannotWrite_82 0 rfl ?_
            refine v_if_ne (pc := 84) (tgt := 94) C dX12_cannotWrite_84 (by decide) (fun c_7 => ?_) (fun c_7 => ?_)
            · skip
              exact absurd c_7 (by decide)
            · skip
              refine v_aload_n (pc := 87) C dX12_cannotWrite_87 2 rfl rfl ?_
              refine v_callV (pc := 88) C (40, 0) ck_40 rfl (c_X12_isFull hG  ) 0 wd_1548 wd_68 wd_1545 wd_1547 wd_38 (by decide +kernel) (by decide) (by decide) rfl ([]) rfl (Nat.le_of_ble_eq_true rfl) (by decide) dX12_cannotWrite_88 (fun _ _ _ q => q.elim) (fun v9 A9 h9 hR9 => ?_)
              obtain ⟨rfl, hA9, rfl⟩ := hR9
              obtain rfl := hA9.symm
              refine v_st (k2 := 0) (n2 := 0) (st2 := [.int ((V_X12_isFull g))]) rfl rfl rfl ?_
              have b_8 := ok_isFull (g := g)
              refine v_if_eq (pc := 91) (tgt := 98) C dX12_cannotWrite_91 (by decide) (fun c_9 => ?_) (fun c_9 => ?_)
              · skip
                refine v_iconst (v := 0) (pc := 98) C dX12_cannotWrite_98 rfl ?_
                exact v_iret (pc := 99) C (by decide) (by decide) dX12_cannotWrite_99 ⟨(congrArg (fun q => some (Value.int q)) (by show _ = _; rw [V_X12_cannotWrite, if_neg c_2, if_neg c_3, if_pos c_4, if_pos c_5, if_pos c_6, if_pos c_9])), rfl, rfl⟩
              · skip
                refine v_iconst (v := 4) (pc := 94) C dX12_cannotWrite_94 rfl ?_
                refine v_goto (tgt := 99) (pc := 95) C dX12_cannotWrite_95 (by decide) ?_
                exact v_iret (pc := 99) C (by decide) (by decide) dX12_cannotWrite_99 ⟨(congrArg (fun q => some (Value.int q)) (by show _ = _; rw [V_X12_cannotWrite, if_neg c_2, if_neg c_3, if_pos c_4, if_pos c_5, if_pos c_6, if_neg c_9])), rfl, rfl⟩
    · skip
      refine v_aload_n (pc := 33) C dX12_cannotWrite_33 1 rfl rfl ?_
      refine v_iload (pc := 34) C dX12_cannotWrite_34 0 rfl ?_
      refine v_callV (pc := 36) C (40, 0) ck_40 rfl (c_X12_partsIn hG ((g 55 (x).toNatClampNeg 0)) hu0 hu hg0 hg hf0 hf) 1 wd_1621 wd_68 wd_1618 wd_1620 wd_47 (by decide +kernel) (by decide) (by decide) rfl ([]) rfl (Nat.le_of_ble_eq_true rfl) (by decide) dX12_cannotWrite_36 (fun _ _ _ q => q.elim) (fun v9 A9 h9 hR9 => ?_)
      obtain ⟨rfl, hA9, rfl⟩ := hR9
      obtain rfl := hA9.symm
      refine v_st (k2 := 0) (n2 := 0) (st2 := [.int ((V_X12_partsIn g ((g 55 (x).toNatClampNeg 0))))]) rfl rfl rfl ?_
      refine v_aload_n (pc := 39) C dX12_cannotWrite_39 1 rfl rfl ?_
      refine v_get (pc := 40) C (40, 0) (v := .ref (A (49, 0))) ck_40 rfl 9 (by decide) inX12 wd_1394 rfl rfl dX12_cannotWrite_40 ?_
      refine v_iload (pc := 43) C dX12_cannotWrite_43 0 rfl ?_
      refine v_iald (pc := 45) C (49, 0) (v := (g 49 ((g 55 (x).toNatClampNeg 0)).toNatClampNeg 0)) ck_49 (by (try simp only [Int32.le_iff_toInt_le, Int32.lt_iff_toInt_lt, ← Int32.toInt_inj, vp_in_iff, Int32.reduceToInt] at c_2 c_3 b_1 hu hg hf u_0 u_N x_0 x_N y_0 y_N ⊢) <;> omega) rfl dX12_cannotWrite_45 ?_
      refine v_icmp_lt (pc := 46) (tgt := 53) C dX12_cannotWrite_46 (by decide) (fun c_10 => ?_) (fun c_10 => ?_)
      · skip
        refine v_iconst (v := 0) (pc := 53) C dX12_cannotWrite_53 rfl ?_
        refine v_istore (lv2 := [(5, .int (0)), (4, .int ((g 55 (x).toNatClampNeg 0))), (0, .ref (A (40, 0))), (1, .int (u)), (2, .int (x)), (3, .int (y))]) (pc := 54) C dX12_cannotWrite_54 (by decide) rfl ?_
        refine v_aload_n (pc := 56) C dX12_cannotWrite_56 2 rfl rfl ?_
        refine v_get (pc := 57) C (40, 0) (v := .ref (A (47, 0))) ck_40 rfl 7 (by decide) inX12 wd_1392 rfl rfl dX12_cannotWrite_57 ?_
        refine v_iload_n (pc := 60) C dX12_cannotWrite_60 3 rfl rfl ?_
        refine v_zald (pc := 61) C (47, 0) (v := (g 47 (u).toNatClampNeg 0)) ck_47 (by (try simp only [Int32.le_iff_toInt_le, Int32.lt_iff_toInt_lt, ← Int32.toInt_inj, vp_in_iff, Int32.reduceToInt] at c_2 c_3 c_10 b_1 hu hg hf u_0 u_N x_0 x_N y_0 y_N ⊢) <;> omega) rfl dX12_cannotWrite_61 ?_
        refine v_if_ne (pc := 62) (tgt := 94) C dX12_cannotWrite_62 (by decide) (fun c_11 => ?_) (fun c_11 => ?_)
        · skip
          refine v_iconst (v := 4) (pc := 94) C dX12_cannotWrite_94 rfl ?_
          refine v_goto (tgt := 99) (pc := 95) C dX12_cannotWrite_95 (by decide) ?_
          exact v_iret (pc := 99) C (by decide) (by decide) dX12_cannotWrite_99 ⟨(congrArg (fun q => some (Value.int q)) (by show _ = _; rw [V_X12_cannotWrite, if_neg c_2, if_pos c_3, if_pos c_10, if_neg c_11])), rfl, rfl⟩
        · skip
          refine v_aload_n (pc := 65) C dX12_cannotWrite_65 2 rfl rfl ?_
          refine v_get (pc := 66) C (40, 0) (v := .ref (A (68, 0))) ck_40 rfl 23 (by decide) inX12 wd_1408 rfl rfl dX12_cannotWrite_66 ?_
          refine v_iload_n (pc := 69) C dX12_cannotWrite_69 4 rfl rfl ?_
          refine v_zald (pc := 70) C (68, 0) (v := (g 68 (x).toNatClampNeg 0)) ck_68 (by (try simp only [Int32.le_iff_toInt_le, Int32.lt_iff_toInt_lt, ← Int32.toInt_inj, vp_in_iff, Int32.reduceToInt] at c_2 c_3 c_10 c_11 b_1 hu hg hf u_0 u_N x_0 x_N y_0 y_N ⊢) <;> omega) rfl dX12_cannotWrite_70 ?_
          refine v_if_ne (pc := 71) (tgt := 94) C dX12_cannotWrite_71 (by decide) (fun c_12 => ?_) (fun c_12 => ?_)
          · skip
            refine v_iconst (v := 4) (pc := 94) C dX12_cannotWrite_94 rfl ?_
            refine v_goto (tgt := 99) (pc := 95) C dX12_cannotWrite_95 (by decide) ?_
            exact v_iret (pc := 99) C (by decide) (by decide) dX12_cannotWrite_99 ⟨(congrArg (fun q => some (Value.int q)) (by show _ = _; rw [V_X12_cannotWrite, if_neg c_2, if_pos c_3, if_pos c_10, if_pos c_11, if_neg c_12])), rfl, rfl⟩
          · skip
            refine v_aload_n (pc := 74) C dX12_cannotWrite_74 2 rfl rfl ?_
            refine v_iload_n (pc := 75) C dX12_cannotWrite_75 4 rfl rfl ?_
            refine v_callV (pc := 76) C (40, 0) ck_40 rfl (c_X12_isSpoiled hG (x) hu0 hu hg0 hg hf0 hf (by (try simp only [Int32.le_iff_toInt_le, Int32.lt_iff_toInt_lt, ← Int32.toInt_inj, Int32.reduceToInt] at c_2 c_3 c_10 c_11 c_12 b_1 hu hg hf u_0 u_N x_0 x_N y_0 y_N ⊢); omega) (by (try simp only [Int32.le_iff_toInt_le, Int32.lt_iff_toInt_lt, ← Int32.toInt_inj, Int32.reduceToInt] at c_2 c_3 c_10 c_11 c_12 b_1 hu hg hf u_0 u_N x_0 x_N y_0 y_N ⊢); omega)) 1 wd_1567 wd_68 wd_1564 wd_1566 wd_40 (by decide +kernel) (by decide) (by decide) rfl ([]) rfl (Nat.le_of_ble_eq_true rfl) (by decide) dX12_cannotWrite_76 (fun _ _ _ q => q.elim) (fun v9 A9 h9 hR9 => ?_)
            obtain ⟨rfl, hA9, rfl⟩ := hR9
            obtain rfl := hA9.symm
            refine v_st (k2 := 0) (n2 := 0) (st2 := [.int ((V_X12_isSpoiled g (x)))]) rfl rfl rfl ?_
            refine v_if_ne (pc := 79) (tgt := 94) C dX12_cannotWrite_79 (by decide) (fun c_13 => ?_) (fun c_13 => ?_)
            · skip
              refine v_iconst (v := 4) (pc := 94) C dX12_cannotWrite_94 rfl ?_
              refine v_goto (tgt := 99) (pc := 95) C dX12_cannotWrite_95 (by decide) ?_
              exact v_iret (pc := 99) C (by decide) (by decide) dX12_cannotWrite_99 ⟨(congrArg (fun q => some (Value.int q)) (by show _ = _; rw [V_X12_cannotWrite, if_neg c_2, if_pos c_3, if_pos c_10, if_pos c_11, if_pos c_12, if_neg c_13])), rfl, rfl⟩
            · skip
              refine v_iload (pc := 82) C dX12_cannotWrite_82 0 rfl ?_
              refine v_if_ne (pc := 84) (tgt := 94) C dX12_cannotWrite_84 (by decide) (fun c_14 => ?_) (fun c_14 => ?_)
              · skip
                exact absurd c_14 (by decide)
              · skip
                refine v_aload_n (pc := 87) C dX12_cannotWrite_87 2 rfl rfl ?_
                refine v_callV (pc := 88) C (40, 0) ck_40 rfl (c_X12_isFull hG  ) 0 wd_1548 wd_68 wd_1545 wd_1547 wd_38 (by decide +kernel) (by decide) (by decide) rfl ([]) rfl (Nat.le_of_ble_eq_true rfl) (by decide) dX12_cannotWrite_88 (fun _ _ _ q => q.elim) (fun v9 A9 h9 hR9 => ?_)
                obtain ⟨rfl, hA9, rfl⟩ := hR9
                obtain rfl := hA9.symm
                refine v_st (k2 := 0) (n2 := 0) (st2 := [.int ((V_X12_isFull g))]) rfl rfl rfl ?_
                have b_15 := ok_isFull (g := g)
                refine v_if_eq (pc := 91) (tgt := 98) C dX12_cannotWrite_91 (by decide) (fun c_16 => ?_) (fun c_16 => ?_)
                · skip
                  refine v_iconst (v := 0) (pc := 98) C dX12_cannotWrite_98 rfl ?_
                  exact v_iret (pc := 99) C (by decide) (by decide) dX12_cannotWrite_99 ⟨(congrArg (fun q => some (Value.int q)) (by show _ = _; rw [V_X12_cannotWrite, if_neg c_2, if_pos c_3, if_pos c_10, if_pos c_11, if_pos c_12, if_pos c_13, if_pos c_16])), rfl, rfl⟩
                · skip
                  refine v_iconst (v := 4) (pc := 94) C dX12_cannotWrite_94 rfl ?_
                  refine v_goto (tgt := 99) (pc := 95) C dX12_cannotWrite_95 (by decide) ?_
                  exact v_iret (pc := 99) C (by decide) (by decide) dX12_cannotWrite_99 ⟨(congrArg (fun q => some (Value.int q)) (by show _ = _; rw [V_X12_cannotWrite, if_neg c_2, if_pos c_3, if_pos c_10, if_pos c_11, if_pos c_12, if_pos c_13, if_neg c_16])), rfl, rfl⟩
      · skip
        refine v_iconst (v := 1) (pc := 49) C dX12_cannotWrite_49 rfl ?_
        refine v_goto (tgt := 54) (pc := 50) C dX12_cannotWrite_50 (by decide) ?_
        refine v_istore (lv2 := [(5, .int (1)), (4, .int ((g 55 (x).toNatClampNeg 0))), (0, .ref (A (40, 0))), (1, .int (u)), (2, .int (x)), (3, .int (y))]) (pc := 54) C dX12_cannotWrite_54 (by decide) rfl ?_
        refine v_aload_n (pc := 56) C dX12_cannotWrite_56 2 rfl rfl ?_
        refine v_get (pc := 57) C (40, 0) (v := .ref (A (47, 0))) ck_40 rfl 7 (by decide) inX12 wd_1392 rfl rfl dX12_cannotWrite_57 ?_
        refine v_iload_n (pc := 60) C dX12_cannotWrite_60 3 rfl rfl ?_
        refine v_zald (pc := 61) C (47, 0) (v := (g 47 (u).toNatClampNeg 0)) ck_47 (by (try simp only [Int32.le_iff_toInt_le, Int32.lt_iff_toInt_lt, ← Int32.toInt_inj, vp_in_iff, Int32.reduceToInt] at c_2 c_3 c_10 b_1 hu hg hf u_0 u_N x_0 x_N y_0 y_N ⊢) <;> omega) rfl dX12_cannotWrite_61 ?_
        refine v_if_ne (pc := 62) (tgt := 94) C dX12_cannotWrite_62 (by decide) (fun c_17 => ?_) (fun c_17 => ?_)
        · skip
          refine v_iconst (v := 4) (pc := 94) C dX12_cannotWrite_94 rfl ?_
          refine v_goto (tgt := 99) (pc := 95) C dX12_cannotWrite_95 (by decide) ?_
          exact v_iret (pc := 99) C (by decide) (by decide) dX12_cannotWrite_99 ⟨(congrArg (fun q => some (Value.int q)) (by show _ = _; rw [V_X12_cannotWrite, if_neg c_2, if_pos c_3, if_neg c_10])), rfl, rfl⟩
        · skip
          refine v_aload_n (pc := 65) C dX12_cannotWrite_65 2 rfl rfl ?_
          refine v_get (pc := 66) C (40, 0) (v := .ref (A (68, 0))) ck_40 rfl 23 (by decide) inX12 wd_1408 rfl rfl dX12_cannotWrite_66 ?_
          refine v_iload_n (pc := 69) C dX12_cannotWrite_69 4 rfl rfl ?_
          refine v_zald (pc := 70) C (68, 0) (v := (g 68 (x).toNatClampNeg 0)) ck_68 (by (try simp only [Int32.le_iff_toInt_le, Int32.lt_iff_toInt_lt, ← Int32.toInt_inj, vp_in_iff, Int32.reduceToInt] at c_2 c_3 c_10 c_17 b_1 hu hg hf u_0 u_N x_0 x_N y_0 y_N ⊢) <;> omega) rfl dX12_cannotWrite_70 ?_
          refine v_if_ne (pc := 71) (tgt := 94) C dX12_cannotWrite_71 (by decide) (fun c_18 => ?_) (fun c_18 => ?_)
          · skip
            refine v_iconst (v := 4) (pc := 94) C dX12_cannotWrite_94 rfl ?_
            refine v_goto (tgt := 99) (pc := 95) C dX12_cannotWrite_95 (by decide) ?_
            exact v_iret (pc := 99) C (by decide) (by decide) dX12_cannotWrite_99 ⟨(congrArg (fun q => some (Value.int q)) (by show _ = _; rw [V_X12_cannotWrite, if_neg c_2, if_pos c_3, if_neg c_10])), rfl, rfl⟩
          · skip
            refine v_aload_n (pc := 74) C dX12_cannotWrite_74 2 rfl rfl ?_
            refine v_iload_n (pc := 75) C dX12_cannotWrite_75 4 rfl rfl ?_
            refine v_callV (pc := 76) C (40, 0) ck_40 rfl (c_X12_isSpoiled hG (x) hu0 hu hg0 hg hf0 hf (by (try simp only [Int32.le_iff_toInt_le, Int32.lt_iff_toInt_lt, ← Int32.toInt_inj, Int32.reduceToInt] at c_2 c_3 c_10 c_17 c_18 b_1 hu hg hf u_0 u_N x_0 x_N y_0 y_N ⊢); omega) (by (try simp only [Int32.le_iff_toInt_le, Int32.lt_iff_toInt_lt, ← Int32.toInt_inj, Int32.reduceToInt] at c_2 c_3 c_10 c_17 c_18 b_1 hu hg hf u_0 u_N x_0 x_N y_0 y_N ⊢); omega)) 1 wd_1567 wd_68 wd_1564 wd_1566 wd_40 (by decide +kernel) (by decide) (by decide) rfl ([]) rfl (Nat.le_of_ble_eq_true rfl) (by decide) dX12_cannotWrite_76 (fun _ _ _ q => q.elim) (fun v9 A9 h9 hR9 => ?_)
            obtain ⟨rfl, hA9, rfl⟩ := hR9
            obtain rfl := hA9.symm
            refine v_st (k2 := 0) (n2 := 0) (st2 := [.int ((V_X12_isSpoiled g (x)))]) rfl rfl rfl ?_
            refine v_if_ne (pc := 79) (tgt := 94) C dX12_cannotWrite_79 (by decide) (fun c_19 => ?_) (fun c_19 => ?_)
            · skip
              refine v_iconst (v := 4) (pc := 94) C dX12_cannotWrite_94 rfl ?_
              refine v_goto (tgt := 99) (pc := 95) C dX12_cannotWrite_95 (by decide) ?_
              exact v_iret (pc := 99) C (by decide) (by decide) dX12_cannotWrite_99 ⟨(congrArg (fun q => some (Value.int q)) (by show _ = _; rw [V_X12_cannotWrite, if_neg c_2, if_pos c_3, if_neg c_10])), rfl, rfl⟩
            · skip
              refine v_iload (pc := 82) C dX12_cannotWrite_82 0 rfl ?_
              refine v_if_ne (pc := 84) (tgt := 94) C dX12_cannotWrite_84 (by decide) (fun c_20 => ?_) (fun c_20 => ?_)
              · skip
                refine v_iconst (v := 4) (pc := 94) C dX12_cannotWrite_94 rfl ?_
                refine v_goto (tgt := 99) (pc := 95) C dX12_cannotWrite_95 (by decide) ?_
                exact v_iret (pc := 99) C (by decide) (by decide) dX12_cannotWrite_99 ⟨(congrArg (fun q => some (Value.int q)) (by show _ = _; rw [V_X12_cannotWrite, if_neg c_2, if_pos c_3, if_neg c_10])), rfl, rfl⟩
              · skip
                exact absurd c_20 (by decide)
  · skip
    refine v_iconst (v := 3) (pc := 20) C dX12_cannotWrite_20 rfl ?_
    exact v_iret (pc := 21) C (by decide) (by decide) dX12_cannotWrite_21 ⟨(congrArg (fun q => some (Value.int q)) (by show _ = _; rw [V_X12_cannotWrite, if_pos c_2])), rfl, rfl⟩
def V_X12_meanTold (g : vS)  : UInt64 := (if (g 10 0 0) ≤ 0 then FP.dconst0 else (FP.ddiv (FP.i2d (g 9 0 0)) (FP.i2d (g 10 0 0))))
def S_X12_meanTold (g : vS)  : vS := (if (g 10 0 0) ≤ 0 then (S_X12_isWrong g (1)) else (S_X12_isWrong g (0)))
theorem F_X12_meanTold {g : vS}  {c i j : Nat} (h1 : c ≠ 1) : S_X12_meanTold g c i j = g c i j := by
  unfold S_X12_meanTold
  (repeat' split) <;> first | rfl | ((simp only [s3_k h1, F_X12_isWrong h1]) <;> first | done | rfl)
set_option maxHeartbeats 4000000 in
set_option maxRecDepth 100000 in
theorem c_X12_meanTold {G : vG} (hG : G.1.stackTraces = false) {A : vN → Nat} {g : vS} {r : vH}  (hm0 : 0 ≤ g 10 0 0) (hm : g 10 0 0 ≤ 512) : vCt G yX12_meanTold cX12_meanTold 1 (some .double) 1 [.ref (A (40, 0))] A (wm g r) (fun v A2 h2 => v = some (.double (V_X12_meanTold g)) ∧ A2 = A ∧ h2 = wm (S_X12_meanTold g) r) (vNoX) 0 0 := by
  refine v_of hG (by decide +kernel) (Nat.le_of_ble_eq_true rfl) (lv := [(0, .ref (A (40, 0)))]) rfl (fun X C hnx => ?_)
  have C : vC G X cX12_meanTold 1 RX12 (some .double) "meanTold" 1 0 0 := C
  refine v_aload_n (pc := 0) C dX12_meanTold_0 0 rfl rfl ?_
  refine v_aload_n (pc := 1) C dX12_meanTold_1 0 rfl rfl ?_
  refine v_get (pc := 2) C (40, 0) (v := .int ((g 10 0 0))) ck_40 rfl 34 (by decide) inX12 wd_1419 rfl rfl dX12_meanTold_2 ?_
  refine v_if_le (pc := 5) (tgt := 12) C dX12_meanTold_5 (by decide) (fun c_1 => ?_) (fun c_1 => ?_)
  · skip
    refine v_iconst (v := 1) (pc := 12) C dX12_meanTold_12 rfl ?_
    refine v_callV (pc := 13) C (40, 0) ck_40 rfl (c_X12_isWrong hG (1) ) 1 wd_1528 wd_68 wd_1525 wd_1527 wd_35 (by decide +kernel) (by decide) (by decide) rfl ([]) rfl (Nat.le_of_ble_eq_true rfl) (by decide) dX12_meanTold_13 (fun _ _ _ q => q.elim) (fun v9 A9 h9 hR9 => ?_)
    obtain ⟨rfl, hA9, rfl⟩ := hR9
    obtain rfl := hA9.symm
    refine v_st (k2 := 0) (n2 := 0) (st2 := [.int ((V_X12_isWrong g (1)))]) rfl rfl rfl ?_
    refine v_if_eq (pc := 16) (tgt := 23) C dX12_meanTold_16 (by decide) (fun c_2 => ?_) (fun c_2 => ?_)
    · skip
      exact absurd c_2 (fun q9 => ((show ¬ (1 : Int32) = 0 from by decide)) q9)
    · skip
      refine v_dconst0 (pc := 19) C dX12_meanTold_19 ?_
      refine v_goto (tgt := 34) (pc := 20) C dX12_meanTold_20 (by decide) ?_
      exact v_dret (pc := 34) C (by decide) (by decide) dX12_meanTold_34 ⟨(congrArg (fun q => some (Value.double q)) (by show _ = _; rw [V_X12_meanTold, if_pos c_1])), rfl, (congrArg (fun q => wm q r) (by show _ = _; rw [S_X12_meanTold, if_pos c_1]))⟩
  · skip
    refine v_iconst (v := 0) (pc := 8) C dX12_meanTold_8 rfl ?_
    refine v_goto (tgt := 13) (pc := 9) C dX12_meanTold_9 (by decide) ?_
    refine v_callV (pc := 13) C (40, 0) ck_40 rfl (c_X12_isWrong hG (0) ) 1 wd_1528 wd_68 wd_1525 wd_1527 wd_35 (by decide +kernel) (by decide) (by decide) rfl ([]) rfl (Nat.le_of_ble_eq_true rfl) (by decide) dX12_meanTold_13 (fun _ _ _ q => q.elim) (fun v9 A9 h9 hR9 => ?_)
    obtain ⟨rfl, hA9, rfl⟩ := hR9
    obtain rfl := hA9.symm
    refine v_st (k2 := 0) (n2 := 0) (st2 := [.int ((V_X12_isWrong g (0)))]) rfl rfl rfl ?_
    refine v_if_eq (pc := 16) (tgt := 23) C dX12_meanTold_16 (by decide) (fun c_3 => ?_) (fun c_3 => ?_)
    · skip
      refine v_aload_n (pc := 23) C dX12_meanTold_23 0 rfl rfl ?_
      refine v_get (pc := 24) C (40, 0) (v := .int ((g 9 0 0))) ck_40 rfl 33 (by decide) inX12 wd_1418 rfl (congrArg Value.int (F_X12_isWrong (by decide))) dX12_meanTold_24 ?_
      refine v_i2d (pc := 27) C dX12_meanTold_27 ?_
      refine v_aload_n (pc := 28) C dX12_meanTold_28 0 rfl rfl ?_
      refine v_get (pc := 29) C (40, 0) (v := .int ((g 10 0 0))) ck_40 rfl 34 (by decide) inX12 wd_1419 rfl (congrArg Value.int (F_X12_isWrong (by decide))) dX12_meanTold_29 ?_
      refine v_i2d (pc := 32) C dX12_meanTold_32 ?_
      refine v_ddiv (pc := 33) C dX12_meanTold_33 (fn64_div (y := (FP.i2d (g 10 0 0))) (fn64_int _) (vFin_n (fun z9 => by simp only [z9] at c_1; first | exact absurd c_1 (by decide) | contradiction) hm0 hm)) ?_
      exact v_dret (pc := 34) C (by decide) (by decide) dX12_meanTold_34 ⟨(congrArg (fun q => some (Value.double q)) (by show _ = _; rw [V_X12_meanTold, if_neg c_1])), rfl, (congrArg (fun q => wm q r) (by show _ = _; rw [S_X12_meanTold, if_neg c_1]))⟩
    · skip
      exact absurd c_3 (fun q9 => q9 ((show (0 : Int32) = 0 from rfl)))
theorem i32_div2 {x : Int32} (h : ¬ x ≤ 0) : (x / 2).toNatClampNeg + 1 ≤ x.toNatClampNeg := by
  rw [Int32.le_iff_toInt_le, show (0 : Int32).toInt = 0 from by decide] at h
  have h2 := Int32.toInt_lt x
  have e : (x / 2).toInt = x.toInt / 2 := by
    rw [Int32.toInt_div, show (2 : Int32).toInt = 2 from by decide, Int.tdiv_eq_ediv_of_nonneg (by omega)]
    apply Int.bmod_eq_of_le <;> omega
  show (x / 2).toInt.toNat + 1 ≤ x.toInt.toNat
  rw [e]
  omega
def VL_X12_power_8 (g : vS) (x : Int64) (y : Int32) : Nat → Int32 → Int64 → Int64 → Int64
  | 0, _, _, _ => 0
  | n + 1, x_8_7, x_8_5, x_8_3 => (if x_8_7 ≤ 0 then x_8_3 else (if (x_8_7 - x_8_7 / 2 * 2) = 1 then (VL_X12_power_8 g x y n ((x_8_7 / 2)) (((x_8_5 * x_8_5) - (x_8_5 * x_8_5) / 65521 * 65521)) (((x_8_3 * x_8_5) - (x_8_3 * x_8_5) / 65521 * 65521))) else (VL_X12_power_8 g x y n ((x_8_7 / 2)) (((x_8_5 * x_8_5) - (x_8_5 * x_8_5) / 65521 * 65521)) (x_8_3))))
def V_X12_power (g : vS) (x : Int64) (y : Int32) : Int64 := (VL_X12_power_8 g x y (65519 + 1) (y) (x) (1))
set_option maxHeartbeats 4000000 in
set_option maxRecDepth 100000 in
theorem c_X12_power {G : vG} (hG : G.1.stackTraces = false) {A : vN → Nat} {g : vS} {r : vH} (x : Int64) (y : Int32) (hy : (y).toNatClampNeg + 1 ≤ 65520) : vCt G yX12_power cX12_power 8 (some .long) 0 [.long (x), .int (y)] A (wm g r) (fun v A2 h2 => v = some (.long (V_X12_power g x y)) ∧ A2 = A ∧ h2 = wm g r) (vNoX) 0 0 := by
  refine v_of hG (by decide +kernel) (Nat.le_of_ble_eq_true rfl) (lv := [(0, .long (x)), (2, .int (y))]) rfl (fun X C hnx => ?_)
  have C : vC G X cX12_power 8 RX12 (some .long) "power" 0 0 0 := C
  refine v_lconst (v := 1) (pc := 0) C dX12_power_0 rfl ?_
  refine v_lstore_n (lv2 := [(3, .long (1)), (0, .long (x)), (2, .int (y))]) (pc := 1) C dX12_power_1 rfl (by decide) rfl ?_
  refine v_lload_n (pc := 2) C dX12_power_2 1 rfl rfl ?_
  refine v_lstore (lv2 := [(5, .long (x)), (3, .long (1)), (0, .long (x)), (2, .int (y))]) (pc := 3) C dX12_power_3 (by decide) rfl ?_
  refine v_iload_n (pc := 5) C dX12_power_5 3 rfl rfl ?_
  refine v_istore (lv2 := [(7, .int (y)), (5, .long (x)), (3, .long (1)), (0, .long (x)), (2, .int (y))]) (pc := 6) C dX12_power_6 (by decide) rfl ?_
  have L_8 : ∀ (n : Nat) (x_8_7 : Int32) (x_8_5 : Int64) (x_8_3 : Int64), (x_8_7).toNatClampNeg + 1 ≤ n → (V_X12_power g x y) = VL_X12_power_8 g x y n x_8_7 x_8_5 x_8_3 → V G 8 X A (wm g r) 0 0 (vM G X (fun v A2 h2 => v = some (.long (V_X12_power g x y)) ∧ A2 = A ∧ h2 = wm g r) (vNoX) 0 0) 8 [(7, .int (x_8_7)), (5, .long (x_8_5)), (3, .long (x_8_3)), (0, .long (x)), (2, .int (y))] [] := by
    intro n
    induction n with
    | zero => intro x_8_7 x_8_5 x_8_3 hc_8 eV_8; exact absurd hc_8 (by omega)
    | succ n ih =>
      intro x_8_7 x_8_5 x_8_3 hc_8 eV_8
      refine v_iload (pc := 8) C dX12_power_8 0 rfl ?_
      refine v_if_le (pc := 10) (tgt := 54) C dX12_power_10 (by decide) (fun c_1 => ?_) (fun c_1 => ?_)
      · skip
        refine v_lload_n (pc := 54) C dX12_power_54 2 rfl rfl ?_
        exact v_lret (pc := 55) C (by decide) (by decide) dX12_power_55 ⟨(congrArg (fun q => some (Value.long q)) (by show _ = _; rw [eV_8, VL_X12_power_8, if_pos c_1])), rfl, rfl⟩
      · skip
        refine v_iload (pc := 13) C dX12_power_13 0 rfl ?_
        refine v_iconst (v := 2) (pc := 15) C dX12_power_15 rfl ?_
        refine v_irem (pc := 16) C dX12_power_16 (by decide) ?_
        refine v_iconst (v := 1) (pc := 17) C dX12_power_17 rfl ?_
        refine v_icmp_ne (pc := 18) (tgt := 32) C dX12_power_18 (by decide) (fun c_2 => ?_) (fun c_2 => ?_)
        · skip
          refine v_lload_n (pc := 32) C dX12_power_32 2 rfl rfl ?_
          refine v_lstore_n (lv2 := [(3, .long (x_8_3)), (7, .int (x_8_7)), (5, .long (x_8_5)), (0, .long (x)), (2, .int (y))]) (pc := 33) C dX12_power_33 rfl (by decide) rfl ?_
          refine v_lload (pc := 34) C dX12_power_34 2 rfl ?_
          refine v_lload (pc := 36) C dX12_power_36 2 rfl ?_
          refine v_lmul (pc := 38) C dX12_power_38 ?_
          refine v_ldc2 (v := 65521) (pc := 39) C dX12_power_39 wd_1809 ?_
          refine v_lrem (pc := 42) C dX12_power_42 (by decide) ?_
          refine v_lstore (lv2 := [(5, .long (((x_8_5 * x_8_5) - (x_8_5 * x_8_5) / 65521 * 65521))), (3, .long (x_8_3)), (7, .int (x_8_7)), (0, .long (x)), (2, .int (y))]) (pc := 43) C dX12_power_43 (by decide) rfl ?_
          refine v_iload (pc := 45) C dX12_power_45 2 rfl ?_
          refine v_iconst (v := 2) (pc := 47) C dX12_power_47 rfl ?_
          refine v_idiv (pc := 48) C dX12_power_48 (by decide) ?_
          refine v_istore (lv2 := [(7, .int ((x_8_7 / 2))), (5, .long (((x_8_5 * x_8_5) - (x_8_5 * x_8_5) / 65521 * 65521))), (3, .long (x_8_3)), (0, .long (x)), (2, .int (y))]) (pc := 49) C dX12_power_49 (by decide) rfl ?_
          refine v_goto (tgt := 8) (pc := 51) C dX12_power_51 (by decide) ?_
          refine v_lv (lv2 := [(7, .int ((x_8_7 / 2))), (5, .long (((x_8_5 * x_8_5) - (x_8_5 * x_8_5) / 65521 * 65521))), (3, .long (x_8_3)), (0, .long (x)), (2, .int (y))]) [0, 1, 2, 3, 4] rfl ?_
          exact ih ((x_8_7 / 2)) (((x_8_5 * x_8_5) - (x_8_5 * x_8_5) / 65521 * 65521)) (x_8_3)  (Nat.le_of_add_le_add_right (Nat.le_trans (Nat.add_le_add_right (i32_div2 c_1) 1) hc_8))  (by rw [eV_8, VL_X12_power_8, if_neg c_1, if_neg c_2])
        · skip
          refine v_lload_n (pc := 21) C dX12_power_21 2 rfl rfl ?_
          refine v_lload (pc := 22) C dX12_power_22 1 rfl ?_
          refine v_lmul (pc := 24) C dX12_power_24 ?_
          refine v_ldc2 (v := 65521) (pc := 25) C dX12_power_25 wd_1809 ?_
          refine v_lrem (pc := 28) C dX12_power_28 (by decide) ?_
          refine v_goto (tgt := 33) (pc := 29) C dX12_power_29 (by decide) ?_
          refine v_lstore_n (lv2 := [(3, .long (((x_8_3 * x_8_5) - (x_8_3 * x_8_5) / 65521 * 65521))), (7, .int (x_8_7)), (5, .long (x_8_5)), (0, .long (x)), (2, .int (y))]) (pc := 33) C dX12_power_33 rfl (by decide) rfl ?_
          refine v_lload (pc := 34) C dX12_power_34 2 rfl ?_
          refine v_lload (pc := 36) C dX12_power_36 2 rfl ?_
          refine v_lmul (pc := 38) C dX12_power_38 ?_
          refine v_ldc2 (v := 65521) (pc := 39) C dX12_power_39 wd_1809 ?_
          refine v_lrem (pc := 42) C dX12_power_42 (by decide) ?_
          refine v_lstore (lv2 := [(5, .long (((x_8_5 * x_8_5) - (x_8_5 * x_8_5) / 65521 * 65521))), (3, .long (((x_8_3 * x_8_5) - (x_8_3 * x_8_5) / 65521 * 65521))), (7, .int (x_8_7)), (0, .long (x)), (2, .int (y))]) (pc := 43) C dX12_power_43 (by decide) rfl ?_
          refine v_iload (pc := 45) C dX12_power_45 2 rfl ?_
          refine v_iconst (v := 2) (pc := 47) C dX12_power_47 rfl ?_
          refine v_idiv (pc := 48) C dX12_power_48 (by decide) ?_
          refine v_istore (lv2 := [(7, .int ((x_8_7 / 2))), (5, .long (((x_8_5 * x_8_5) - (x_8_5 * x_8_5) / 65521 * 65521))), (3, .long (((x_8_3 * x_8_5) - (x_8_3 * x_8_5) / 65521 * 65521))), (0, .long (x)), (2, .int (y))]) (pc := 49) C dX12_power_49 (by decide) rfl ?_
          refine v_goto (tgt := 8) (pc := 51) C dX12_power_51 (by decide) ?_
          refine v_lv (lv2 := [(7, .int ((x_8_7 / 2))), (5, .long (((x_8_5 * x_8_5) - (x_8_5 * x_8_5) / 65521 * 65521))), (3, .long (((x_8_3 * x_8_5) - (x_8_3 * x_8_5) / 65521 * 65521))), (0, .long (x)), (2, .int (y))]) [0, 1, 2, 3, 4] rfl ?_
          exact ih ((x_8_7 / 2)) (((x_8_5 * x_8_5) - (x_8_5 * x_8_5) / 65521 * 65521)) (((x_8_3 * x_8_5) - (x_8_3 * x_8_5) / 65521 * 65521))  (Nat.le_of_add_le_add_right (Nat.le_trans (Nat.add_le_add_right (i32_div2 c_1) 1) hc_8))  (by rw [eV_8, VL_X12_power_8, if_neg c_1, if_pos c_2])
  exact L_8 (65519 + 1) (y) (x) (1)  hy  (by rw [V_X12_power])
/-- how many shares a secret needs is from 0 to 8 -/
def vM5 (g : vS) : Prop := ∀ u : Nat, 0 ≤ (g 46 u 0).toInt ∧ (g 46 u 0).toInt ≤ 8
theorem vM5_k {g G : vS} (h : ∀ i j, G 46 i j = g 46 i j) (q : vM5 g) : vM5 G := fun u => by rw [h]; exact q u
theorem tn_dec0 {x : Int32} (h : ¬ x < 0) : (x + -1 + 1).toNatClampNeg + 1 ≤ (x + 1).toNatClampNeg ∨ x.toInt = 2147483647 := by
  rw [Int32.lt_iff_toInt_lt, show (0 : Int32).toInt = 0 from by decide] at h
  have h2 := Int32.toInt_lt x
  by_cases q : x.toInt = 2147483647
  · exact Or.inr q
  · refine Or.inl ?_
    have e1 : (x + -1).toInt = x.toInt - 1 := by
      rw [Int32.toInt_add, show (-1 : Int32).toInt = -1 from by decide]
      apply Int.bmod_eq_of_le <;> omega
    have e2 : (x + -1 + 1).toInt = x.toInt := by
      rw [Int32.toInt_add, e1, show (1 : Int32).toInt = 1 from by decide]
      rw [Int.sub_add_cancel]
      apply Int.bmod_eq_of_le <;> omega
    have e3 : (x + 1).toInt = x.toInt + 1 := i32_add1 (by omega)
    show (x + -1 + 1).toInt.toNat + 1 ≤ (x + 1).toInt.toNat
    rw [e2, e3]
    omega
