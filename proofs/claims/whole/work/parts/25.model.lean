
/-- the files' groups are there; a file's present version and each part's version lie in its row of beginnings -/
def vM1 (g : vS) : Prop := ∀ f : Nat, 0 ≤ (g 55 f 0).toInt ∧ (g 55 f 0).toInt < 5
def vM2 (g : vS) : Prop := ∀ f : Nat, 0 ≤ (g 56 f 0).toInt ∧ (g 56 f 0).toInt < ((g 13 f 0).toNatClampNeg : Int)
def vM3 (g : vS) : Prop := ∀ f p : Nat, 0 ≤ (g 61 f p).toInt ∧ (g 61 f p).toInt ≤ (g 56 f 0).toInt
theorem vM1_k {g G : vS} (h : ∀ i j, G 55 i j = g 55 i j) (q : vM1 g) : vM1 G := fun f => by rw [h]; exact q f
theorem vM2_k {g G : vS} (h : ∀ i j, G 56 i j = g 56 i j) (h2 : ∀ i j, G 13 i j = g 13 i j) (q : vM2 g) : vM2 G := fun f => by rw [h, h2]; exact q f
theorem vM3_k {g G : vS} (h : ∀ i j, G 61 i j = g 61 i j) (h2 : ∀ i j, G 56 i j = g 56 i j) (q : vM3 g) : vM3 G := fun f p => by rw [h, h2]; exact q f p

def V_X12_isNotThere (g : vS) (zz : Int32) (x : Int32) (y : Int32) : Int32 := (if zz = 0 then (V_X12_isWrong g (1)) else (if (V_X12_isFile g (x)) = 0 then (V_X12_isWrong g (1)) else (if (V_X12_isPart g (y)) = 0 then (V_X12_isWrong g (2)) else (if (g 63 (x).toNatClampNeg (y).toNatClampNeg) = 0 then (V_X12_isWrong g (1)) else (V_X12_isWrong g (0))))))
theorem B_X12_isNotThere {g : vS} {zz : Int32} {x : Int32} {y : Int32} : V_X12_isNotThere g zz x y = 0 ∨ V_X12_isNotThere g zz x y = 1 := by
  unfold V_X12_isNotThere
  (repeat' split) <;> first | exact Or.inl rfl | exact Or.inr rfl | exact B_X12_isWrong
def S_X12_isNotThere (g : vS) (zz : Int32) (x : Int32) (y : Int32) : vS := (if zz = 0 then (S_X12_isWrong g (1)) else (if (V_X12_isFile g (x)) = 0 then (S_X12_isWrong g (1)) else (if (V_X12_isPart g (y)) = 0 then (S_X12_isWrong g (2)) else (if (g 63 (x).toNatClampNeg (y).toNatClampNeg) = 0 then (S_X12_isWrong g (1)) else (S_X12_isWrong g (0))))))
theorem F_X12_isNotThere {g : vS} {zz : Int32} {x : Int32} {y : Int32} {c i j : Nat} (h1 : c ≠ 1) : S_X12_isNotThere g zz x y c i j = g c i j := by
  unfold S_X12_isNotThere
  (repeat' split) <;> first | rfl | ((simp only [s3_k h1, F_X12_isWrong h1]) <;> first | done | rfl)
set_option maxHeartbeats 4000000 in
set_option maxRecDepth 100000 in
theorem c_X12_isNotThere {G : vG} (hG : G.1.stackTraces = false) {A : vN → Nat} {g : vS} {r : vH} (zz : Int32) (x : Int32) (y : Int32) (hu0 : 0 ≤ (g 2 0 0).toInt) (hu : (g 2 0 0).toInt ≤ 6) (hg0 : 0 ≤ (g 3 0 0).toInt) (hg : (g 3 0 0).toInt ≤ 5) (hf0 : 0 ≤ (g 4 0 0).toInt) (hf : (g 4 0 0).toInt ≤ 20) : vCt G yX12_isNotThere cX12_isNotThere 4 (some .boolean) 2 [.ref (A (40, 0)), .int (zz), .int (x), .int (y)] A (wm g r) (fun v A2 h2 => v = some (.int (V_X12_isNotThere g zz x y)) ∧ A2 = A ∧ h2 = wm (S_X12_isNotThere g zz x y) r) (vNoX) 0 0 := by
  refine v_of hG (by decide +kernel) (Nat.le_of_ble_eq_true rfl) (lv := [(0, .ref (A (40, 0))), (1, .int (zz)), (2, .int (x)), (3, .int (y))]) rfl (fun X C hnx => ?_)
  have C : vC G X cX12_isNotThere 4 RX12 (some .boolean) "isNotThere" 2 0 0 := C
  refine v_aload_n (pc := 0) C dX12_isNotThere_0 0 rfl rfl ?_
  refine v_iload_n (pc := 1) C dX12_isNotThere_1 1 rfl rfl ?_
  refine v_if_eq (pc := 2) (tgt := 13) C dX12_isNotThere_2 (by decide) (fun c_1 => ?_) (fun c_1 => ?_)
  · skip
    refine v_iconst (v := 1) (pc := 13) C dX12_isNotThere_13 rfl ?_
    refine v_goto (tgt := 44) (pc := 14) C dX12_isNotThere_14 (by decide) ?_
    refine v_callV (pc := 44) C (40, 0) ck_40 rfl (c_X12_isWrong hG (1) ) 1 wd_1531 wd_68 wd_1528 wd_1530 wd_35 (by decide +kernel) (by decide) (by decide) rfl ([]) rfl (Nat.le_of_ble_eq_true rfl) (by decide) dX12_isNotThere_44 (fun _ _ _ q => q.elim) (fun v9 A9 h9 hR9 => ?_)
    obtain ⟨rfl, hA9, rfl⟩ := hR9
    obtain rfl := hA9.symm
    refine v_st (k2 := 0) (n2 := 0) (st2 := [.int ((V_X12_isWrong g (1)))]) rfl rfl rfl ?_
    exact v_zret (pc := 47) C (nar_b B_X12_isWrong) (by decide) (by decide) dX12_isNotThere_47 ⟨(congrArg (fun q => some (Value.int q)) (by show _ = _; rw [V_X12_isNotThere, if_pos c_1])), rfl, (congrArg (fun q => wm q r) (by show _ = _; rw [S_X12_isNotThere, if_pos c_1]))⟩
  · skip
    refine v_aload_n (pc := 5) C dX12_isNotThere_5 0 rfl rfl ?_
    refine v_iload_n (pc := 6) C dX12_isNotThere_6 2 rfl rfl ?_
    refine v_callV (pc := 7) C (40, 0) ck_40 rfl (c_X12_isFile hG (x) ) 1 wd_1613 wd_68 wd_1610 wd_1612 wd_45 (by decide +kernel) (by decide) (by decide) rfl ([.ref (A (40, 0))]) rfl (Nat.le_of_ble_eq_true rfl) (by decide) dX12_isNotThere_7 (fun _ _ _ q => q.elim) (fun v9 A9 h9 hR9 => ?_)
    obtain ⟨rfl, hA9, rfl⟩ := hR9
    obtain rfl := hA9.symm
    refine v_st (k2 := 0) (n2 := 0) (st2 := [.int ((V_X12_isFile g (x))), .ref (A (40, 0))]) rfl rfl rfl ?_
    have b_2 := ok_isFile (g := g) (x := x) hf0
    refine v_if_ne (pc := 10) (tgt := 17) C dX12_isNotThere_10 (by decide) (fun c_3 => ?_) (fun c_3 => ?_)
    · skip
      refine v_iload_n (pc := 17) C dX12_isNotThere_17 3 rfl rfl ?_
      refine v_callS (pc := 18) C (c_X12_isPart hG (y) ) 1 wd_1616 wd_68 wd_1614 wd_1615 (by decide +kernel) (by decide) (by decide) rfl ([.ref (A (40, 0))]) rfl (Nat.le_of_ble_eq_true rfl) (by decide) dX12_isNotThere_18 (fun _ _ _ q => q.elim) (fun v9 A9 h9 hR9 => ?_)
      obtain ⟨rfl, hA9, rfl⟩ := hR9
      obtain rfl := hA9.symm
      refine v_st (k2 := 0) (n2 := 0) (st2 := [.int ((V_X12_isPart g (y))), .ref (A (40, 0))]) rfl rfl rfl ?_
      have b_4 := ok_isPart (g := g) (x := y)
      refine v_if_ne (pc := 21) (tgt := 28) C dX12_isNotThere_21 (by decide) (fun c_5 => ?_) (fun c_5 => ?_)
      · skip
        refine v_aload_n (pc := 28) C dX12_isNotThere_28 0 rfl rfl ?_
        refine v_get (pc := 29) C (40, 0) (v := .ref (A (62, 0))) ck_40 rfl 20 (by decide) inX12 wd_1408 rfl rfl dX12_isNotThere_29 ?_
        refine v_iload_n (pc := 32) C dX12_isNotThere_32 2 rfl rfl ?_
        refine v_aald (pc := 33) C (62, 0) ck_62 rfl rfl (by (try simp only [Int32.le_iff_toInt_le, Int32.lt_iff_toInt_lt, ← Int32.toInt_inj, vp_in_iff, Int32.reduceToInt] at c_1 c_3 c_5 b_2 b_4 hu hg hf ⊢) <;> omega) (63, (x).toNatClampNeg) rfl dX12_isNotThere_33 ?_
        refine v_iload_n (pc := 34) C dX12_isNotThere_34 3 rfl rfl ?_
        refine v_iald (pc := 35) C (63, (x).toNatClampNeg) (v := (g 63 (x).toNatClampNeg (y).toNatClampNeg)) (ck_63 (g := g) (tn_lt (by (try simp only [Int32.le_iff_toInt_le, Int32.lt_iff_toInt_lt, ← Int32.toInt_inj, Int32.reduceToInt] at c_1 c_3 c_5 b_2 b_4 hu hg hf ⊢); omega))) (by (try simp only [Int32.le_iff_toInt_le, Int32.lt_iff_toInt_lt, ← Int32.toInt_inj, vp_in_iff, Int32.reduceToInt] at c_1 c_3 c_5 b_2 b_4 hu hg hf ⊢) <;> omega) rfl dX12_isNotThere_35 ?_
        refine v_if_ne (pc := 36) (tgt := 43) C dX12_isNotThere_36 (by decide) (fun c_6 => ?_) (fun c_6 => ?_)
        · skip
          refine v_iconst (v := 0) (pc := 43) C dX12_isNotThere_43 rfl ?_
          refine v_callV (pc := 44) C (40, 0) ck_40 rfl (c_X12_isWrong hG (0) ) 1 wd_1531 wd_68 wd_1528 wd_1530 wd_35 (by decide +kernel) (by decide) (by decide) rfl ([]) rfl (Nat.le_of_ble_eq_true rfl) (by decide) dX12_isNotThere_44 (fun _ _ _ q => q.elim) (fun v9 A9 h9 hR9 => ?_)
          obtain ⟨rfl, hA9, rfl⟩ := hR9
          obtain rfl := hA9.symm
          refine v_st (k2 := 0) (n2 := 0) (st2 := [.int ((V_X12_isWrong g (0)))]) rfl rfl rfl ?_
          exact v_zret (pc := 47) C (nar_b B_X12_isWrong) (by decide) (by decide) dX12_isNotThere_47 ⟨(congrArg (fun q => some (Value.int q)) (by show _ = _; rw [V_X12_isNotThere, if_neg c_1, if_neg c_3, if_neg c_5, if_neg c_6])), rfl, (congrArg (fun q => wm q r) (by show _ = _; rw [S_X12_isNotThere, if_neg c_1, if_neg c_3, if_neg c_5, if_neg c_6]))⟩
        · skip
          refine v_iconst (v := 1) (pc := 39) C dX12_isNotThere_39 rfl ?_
          refine v_goto (tgt := 44) (pc := 40) C dX12_isNotThere_40 (by decide) ?_
          refine v_callV (pc := 44) C (40, 0) ck_40 rfl (c_X12_isWrong hG (1) ) 1 wd_1531 wd_68 wd_1528 wd_1530 wd_35 (by decide +kernel) (by decide) (by decide) rfl ([]) rfl (Nat.le_of_ble_eq_true rfl) (by decide) dX12_isNotThere_44 (fun _ _ _ q => q.elim) (fun v9 A9 h9 hR9 => ?_)
          obtain ⟨rfl, hA9, rfl⟩ := hR9
          obtain rfl := hA9.symm
          refine v_st (k2 := 0) (n2 := 0) (st2 := [.int ((V_X12_isWrong g (1)))]) rfl rfl rfl ?_
          exact v_zret (pc := 47) C (nar_b B_X12_isWrong) (by decide) (by decide) dX12_isNotThere_47 ⟨(congrArg (fun q => some (Value.int q)) (by show _ = _; rw [V_X12_isNotThere, if_neg c_1, if_neg c_3, if_neg c_5, if_pos c_6])), rfl, (congrArg (fun q => wm q r) (by show _ = _; rw [S_X12_isNotThere, if_neg c_1, if_neg c_3, if_neg c_5, if_pos c_6]))⟩
      · skip
        refine v_iconst (v := 2) (pc := 24) C dX12_isNotThere_24 rfl ?_
        refine v_goto (tgt := 44) (pc := 25) C dX12_isNotThere_25 (by decide) ?_
        refine v_callV (pc := 44) C (40, 0) ck_40 rfl (c_X12_isWrong hG (2) ) 1 wd_1531 wd_68 wd_1528 wd_1530 wd_35 (by decide +kernel) (by decide) (by decide) rfl ([]) rfl (Nat.le_of_ble_eq_true rfl) (by decide) dX12_isNotThere_44 (fun _ _ _ q => q.elim) (fun v9 A9 h9 hR9 => ?_)
        obtain ⟨rfl, hA9, rfl⟩ := hR9
        obtain rfl := hA9.symm
        refine v_st (k2 := 0) (n2 := 0) (st2 := [.int ((V_X12_isWrong g (2)))]) rfl rfl rfl ?_
        exact v_zret (pc := 47) C (nar_b B_X12_isWrong) (by decide) (by decide) dX12_isNotThere_47 ⟨(congrArg (fun q => some (Value.int q)) (by show _ = _; rw [V_X12_isNotThere, if_neg c_1, if_neg c_3, if_pos c_5])), rfl, (congrArg (fun q => wm q r) (by show _ = _; rw [S_X12_isNotThere, if_neg c_1, if_neg c_3, if_pos c_5]))⟩
    · skip
      refine v_iconst (v := 1) (pc := 13) C dX12_isNotThere_13 rfl ?_
      refine v_goto (tgt := 44) (pc := 14) C dX12_isNotThere_14 (by decide) ?_
      refine v_callV (pc := 44) C (40, 0) ck_40 rfl (c_X12_isWrong hG (1) ) 1 wd_1531 wd_68 wd_1528 wd_1530 wd_35 (by decide +kernel) (by decide) (by decide) rfl ([]) rfl (Nat.le_of_ble_eq_true rfl) (by decide) dX12_isNotThere_44 (fun _ _ _ q => q.elim) (fun v9 A9 h9 hR9 => ?_)
      obtain ⟨rfl, hA9, rfl⟩ := hR9
      obtain rfl := hA9.symm
      refine v_st (k2 := 0) (n2 := 0) (st2 := [.int ((V_X12_isWrong g (1)))]) rfl rfl rfl ?_
      exact v_zret (pc := 47) C (nar_b B_X12_isWrong) (by decide) (by decide) dX12_isNotThere_47 ⟨(congrArg (fun q => some (Value.int q)) (by show _ = _; rw [V_X12_isNotThere, if_neg c_1, if_pos c_3])), rfl, (congrArg (fun q => wm q r) (by show _ = _; rw [S_X12_isNotThere, if_neg c_1, if_pos c_3]))⟩
theorem ok_notThere {g : vS} {zz x y : Int32} (h : 0 ≤ (g 4 0 0).toInt) : ¬ (V_X12_isNotThere g zz x y).toInt = 0 ∨ (¬ zz.toInt = 0 ∧ 0 ≤ x.toInt ∧ x.toInt < (g 4 0 0).toInt ∧ 0 ≤ y.toInt ∧ y.toInt < 8) := by
  have h1 := ok_isFile (g := g) (x := x) h
  have h2 := ok_isPart (g := g) (x := y)
  unfold V_X12_isNotThere
  (repeat' split) <;> first
    | exact Or.inl (show ¬ (1 : Int32).toInt = 0 by decide)
    | (right; rename_i a b c d; rw [← Int32.toInt_inj] at a b c; simp only [Int32.reduceToInt] at a b c; omega)
def V_X12_reads (g : vS) (u : Int32) (x : Int32) (y : Int32) : Int32 := (if (V_X12_latest g ((g 55 (x).toNatClampNeg 0)) (u)) < (g 59 (x).toNatClampNeg ((g 61 (x).toNatClampNeg (y).toNatClampNeg)).toNatClampNeg) then 0 else 1)
theorem B_X12_reads {g : vS} {u : Int32} {x : Int32} {y : Int32} : V_X12_reads g u x y = 0 ∨ V_X12_reads g u x y = 1 := by
  unfold V_X12_reads
  (repeat' split) <;> first | exact Or.inl rfl | exact Or.inr rfl
set_option maxHeartbeats 4000000 in
set_option maxRecDepth 100000 in
theorem c_X12_reads {G : vG} (hG : G.1.stackTraces = false) {A : vN → Nat} {g : vS} {r : vH} (u : Int32) (x : Int32) (y : Int32) (hu0 : 0 ≤ (g 2 0 0).toInt) (hu : (g 2 0 0).toInt ≤ 6) (hg0 : 0 ≤ (g 3 0 0).toInt) (hg : (g 3 0 0).toInt ≤ 5) (hf0 : 0 ≤ (g 4 0 0).toInt) (hf : (g 4 0 0).toInt ≤ 20) (u_0 : 0 ≤ (u).toInt) (u_N : (u).toInt < 6) (x_0 : 0 ≤ (x).toInt) (x_N : (x).toInt < 20) (y_0 : 0 ≤ (y).toInt) (y_N : (y).toInt < 8) (h1 : vM1 g) (h2 : vM2 g) (h3 : vM3 g) : vCt G yX12_reads cX12_reads 4 (some .boolean) 1 [.ref (A (40, 0)), .int (u), .int (x), .int (y)] A (wm g r) (fun v A2 h2 => v = some (.int (V_X12_reads g u x y)) ∧ A2 = A ∧ h2 = wm g r) (vNoX) 0 0 := by
  refine v_of hG (by decide +kernel) (Nat.le_of_ble_eq_true rfl) (lv := [(0, .ref (A (40, 0))), (1, .int (u)), (2, .int (x)), (3, .int (y))]) rfl (fun X C hnx => ?_)
  have C : vC G X cX12_reads 4 RX12 (some .boolean) "reads" 1 0 0 := C
  refine v_aload_n (pc := 0) C dX12_reads_0 0 rfl rfl ?_
  refine v_get (pc := 1) C (40, 0) (v := .ref (A (58, 0))) ck_40 rfl 18 (by decide) inX12 wd_1406 rfl rfl dX12_reads_1 ?_
  refine v_iload_n (pc := 4) C dX12_reads_4 2 rfl rfl ?_
  refine v_aald (pc := 5) C (58, 0) ck_58 rfl rfl (by (try simp only [Int32.le_iff_toInt_le, Int32.lt_iff_toInt_lt, ← Int32.toInt_inj, vp_in_iff, Int32.reduceToInt] at hu hg hf u_0 u_N x_0 x_N y_0 y_N ⊢) <;> omega) (59, (x).toNatClampNeg) rfl dX12_reads_5 ?_
  refine v_aload_n (pc := 6) C dX12_reads_6 0 rfl rfl ?_
  refine v_get (pc := 7) C (40, 0) (v := .ref (A (60, 0))) ck_40 rfl 19 (by decide) inX12 wd_1407 rfl rfl dX12_reads_7 ?_
  refine v_iload_n (pc := 10) C dX12_reads_10 2 rfl rfl ?_
  refine v_aald (pc := 11) C (60, 0) ck_60 rfl rfl (by (try simp only [Int32.le_iff_toInt_le, Int32.lt_iff_toInt_lt, ← Int32.toInt_inj, vp_in_iff, Int32.reduceToInt] at hu hg hf u_0 u_N x_0 x_N y_0 y_N ⊢) <;> omega) (61, (x).toNatClampNeg) rfl dX12_reads_11 ?_
  refine v_iload_n (pc := 12) C dX12_reads_12 3 rfl rfl ?_
  refine v_iald (pc := 13) C (61, (x).toNatClampNeg) (v := (g 61 (x).toNatClampNeg (y).toNatClampNeg)) (ck_61 (g := g) (tn_lt (by (try simp only [Int32.le_iff_toInt_le, Int32.lt_iff_toInt_lt, ← Int32.toInt_inj, Int32.reduceToInt] at hu hg hf u_0 u_N x_0 x_N y_0 y_N ⊢); omega))) (by (try simp only [Int32.le_iff_toInt_le, Int32.lt_iff_toInt_lt, ← Int32.toInt_inj, vp_in_iff, Int32.reduceToInt] at hu hg hf u_0 u_N x_0 x_N y_0 y_N ⊢) <;> omega) rfl dX12_reads_13 ?_
  have b_1 := h3 (x).toNatClampNeg (y).toNatClampNeg
  have b_2 := h2 (x).toNatClampNeg
  refine v_iald (pc := 14) C (59, (x).toNatClampNeg) (v := (g 59 (x).toNatClampNeg ((g 61 (x).toNatClampNeg (y).toNatClampNeg)).toNatClampNeg)) (ck_59 (g := g) (tn_lt (by (try simp only [Int32.le_iff_toInt_le, Int32.lt_iff_toInt_lt, ← Int32.toInt_inj, Int32.reduceToInt] at b_1 b_2 hu hg hf u_0 u_N x_0 x_N y_0 y_N ⊢); omega))) (by (try simp only [Int32.le_iff_toInt_le, Int32.lt_iff_toInt_lt, ← Int32.toInt_inj, vp_in_iff, Int32.reduceToInt] at b_1 b_2 hu hg hf u_0 u_N x_0 x_N y_0 y_N ⊢) <;> omega) rfl dX12_reads_14 ?_
  refine v_aload_n (pc := 15) C dX12_reads_15 0 rfl rfl ?_
  refine v_aload_n (pc := 16) C dX12_reads_16 0 rfl rfl ?_
  refine v_get (pc := 17) C (40, 0) (v := .ref (A (55, 0))) ck_40 rfl 15 (by decide) inX12 wd_1403 rfl rfl dX12_reads_17 ?_
  refine v_iload_n (pc := 20) C dX12_reads_20 2 rfl rfl ?_
  refine v_iald (pc := 21) C (55, 0) (v := (g 55 (x).toNatClampNeg 0)) ck_55 (by (try simp only [Int32.le_iff_toInt_le, Int32.lt_iff_toInt_lt, ← Int32.toInt_inj, vp_in_iff, Int32.reduceToInt] at b_1 b_2 hu hg hf u_0 u_N x_0 x_N y_0 y_N ⊢) <;> omega) rfl dX12_reads_21 ?_
  have b_3 := h1 (x).toNatClampNeg
  refine v_iload_n (pc := 22) C dX12_reads_22 1 rfl rfl ?_
  refine v_callV (pc := 23) C (40, 0) ck_40 rfl (c_X12_latest hG ((g 55 (x).toNatClampNeg 0)) (u) hu0 hu hg0 hg hf0 hf (by (try simp only [Int32.le_iff_toInt_le, Int32.lt_iff_toInt_lt, ← Int32.toInt_inj, Int32.reduceToInt] at b_1 b_2 b_3 hu hg hf u_0 u_N x_0 x_N y_0 y_N ⊢); omega) (by (try simp only [Int32.le_iff_toInt_le, Int32.lt_iff_toInt_lt, ← Int32.toInt_inj, Int32.reduceToInt] at b_1 b_2 b_3 hu hg hf u_0 u_N x_0 x_N y_0 y_N ⊢); omega) (by (try simp only [Int32.le_iff_toInt_le, Int32.lt_iff_toInt_lt, ← Int32.toInt_inj, Int32.reduceToInt] at b_1 b_2 b_3 hu hg hf u_0 u_N x_0 x_N y_0 y_N ⊢); omega) (by (try simp only [Int32.le_iff_toInt_le, Int32.lt_iff_toInt_lt, ← Int32.toInt_inj, Int32.reduceToInt] at b_1 b_2 b_3 hu hg hf u_0 u_N x_0 x_N y_0 y_N ⊢); omega)) 2 wd_1601 wd_68 wd_1598 wd_1600 wd_44 (by decide +kernel) (by decide) (by decide) rfl ([.int ((g 59 (x).toNatClampNeg ((g 61 (x).toNatClampNeg (y).toNatClampNeg)).toNatClampNeg))]) rfl (Nat.le_of_ble_eq_true rfl) (by decide) dX12_reads_23 (fun _ _ _ q => q.elim) (fun v9 A9 h9 hR9 => ?_)
  obtain ⟨rfl, hA9, rfl⟩ := hR9
  obtain rfl := hA9.symm
  refine v_st (k2 := 0) (n2 := 0) (st2 := [.int ((V_X12_latest g ((g 55 (x).toNatClampNeg 0)) (u))), .int ((g 59 (x).toNatClampNeg ((g 61 (x).toNatClampNeg (y).toNatClampNeg)).toNatClampNeg))]) rfl rfl rfl ?_
  refine v_icmp_gt (pc := 26) (tgt := 33) C dX12_reads_26 (by decide) (fun c_4 => ?_) (fun c_4 => ?_)
  · skip
    refine v_iconst (v := 0) (pc := 33) C dX12_reads_33 rfl ?_
    exact v_zret (pc := 34) C rfl (by decide) (by decide) dX12_reads_34 ⟨(congrArg (fun q => some (Value.int q)) (by show _ = _; rw [V_X12_reads, if_pos c_4])), rfl, rfl⟩
  · skip
    refine v_iconst (v := 1) (pc := 29) C dX12_reads_29 rfl ?_
    refine v_goto (tgt := 34) (pc := 30) C dX12_reads_30 (by decide) ?_
    exact v_zret (pc := 34) C rfl (by decide) (by decide) dX12_reads_34 ⟨(congrArg (fun q => some (Value.int q)) (by show _ = _; rw [V_X12_reads, if_neg c_4])), rfl, rfl⟩
def V_X12_writes (g : vS) (x : Int32) (y : Int32) : Int32 := (if (V_X12_isFile g (x)) = 0 then 0 else (if (V_X12_isPart g (y)) = 0 then 0 else (g 63 (x).toNatClampNeg (y).toNatClampNeg)))
def S_X12_writes (g : vS) (x : Int32) (y : Int32) : vS := (if (V_X12_isFile g (x)) = 0 then (S_X12_isWrong g (1)) else (if (V_X12_isPart g (y)) = 0 then (S_X12_isWrong g (2)) else (S_X12_isWrong g (0))))
theorem F_X12_writes {g : vS} {x : Int32} {y : Int32} {c i j : Nat} (h1 : c ≠ 1) : S_X12_writes g x y c i j = g c i j := by
  unfold S_X12_writes
  (repeat' split) <;> first | rfl | ((simp only [s3_k h1, F_X12_isWrong h1]) <;> first | done | rfl)
set_option maxHeartbeats 4000000 in
set_option maxRecDepth 100000 in
theorem c_X12_writes {G : vG} (hG : G.1.stackTraces = false) {A : vN → Nat} {g : vS} {r : vH} (x : Int32) (y : Int32) (hu0 : 0 ≤ (g 2 0 0).toInt) (hu : (g 2 0 0).toInt ≤ 6) (hg0 : 0 ≤ (g 3 0 0).toInt) (hg : (g 3 0 0).toInt ≤ 5) (hf0 : 0 ≤ (g 4 0 0).toInt) (hf : (g 4 0 0).toInt ≤ 20) (h1 : vM1 g) (h2 : vM2 g) (h3 : vM3 g) : vCt G yX12_writes cX12_writes 3 (some .int) 2 [.ref (A (40, 0)), .int (x), .int (y)] A (wm g r) (fun v A2 h2 => v = some (.int (V_X12_writes g x y)) ∧ A2 = A ∧ h2 = wm (S_X12_writes g x y) r) (vNoX) 0 0 := by
  refine v_of hG (by decide +kernel) (Nat.le_of_ble_eq_true rfl) (lv := [(0, .ref (A (40, 0))), (1, .int (x)), (2, .int (y))]) rfl (fun X C hnx => ?_)
  have C : vC G X cX12_writes 3 RX12 (some .int) "writes" 2 0 0 := C
  refine v_aload_n (pc := 0) C dX12_writes_0 0 rfl rfl ?_
  refine v_aload_n (pc := 1) C dX12_writes_1 0 rfl rfl ?_
  refine v_iload_n (pc := 2) C dX12_writes_2 1 rfl rfl ?_
  refine v_callV (pc := 3) C (40, 0) ck_40 rfl (c_X12_isFile hG (x) ) 1 wd_1613 wd_68 wd_1610 wd_1612 wd_45 (by decide +kernel) (by decide) (by decide) rfl ([.ref (A (40, 0))]) rfl (Nat.le_of_ble_eq_true rfl) (by decide) dX12_writes_3 (fun _ _ _ q => q.elim) (fun v9 A9 h9 hR9 => ?_)
  obtain ⟨rfl, hA9, rfl⟩ := hR9
  obtain rfl := hA9.symm
  refine v_st (k2 := 0) (n2 := 0) (st2 := [.int ((V_X12_isFile g (x))), .ref (A (40, 0))]) rfl rfl rfl ?_
  have b_1 := ok_isFile (g := g) (x := x) hf0
  refine v_if_ne (pc := 6) (tgt := 13) C dX12_writes_6 (by decide) (fun c_2 => ?_) (fun c_2 => ?_)
  · skip
    refine v_iload_n (pc := 13) C dX12_writes_13 2 rfl rfl ?_
    refine v_callS (pc := 14) C (c_X12_isPart hG (y) ) 1 wd_1616 wd_68 wd_1614 wd_1615 (by decide +kernel) (by decide) (by decide) rfl ([.ref (A (40, 0))]) rfl (Nat.le_of_ble_eq_true rfl) (by decide) dX12_writes_14 (fun _ _ _ q => q.elim) (fun v9 A9 h9 hR9 => ?_)
    obtain ⟨rfl, hA9, rfl⟩ := hR9
    obtain rfl := hA9.symm
    refine v_st (k2 := 0) (n2 := 0) (st2 := [.int ((V_X12_isPart g (y))), .ref (A (40, 0))]) rfl rfl rfl ?_
    have b_3 := ok_isPart (g := g) (x := y)
    refine v_if_eq (pc := 17) (tgt := 24) C dX12_writes_17 (by decide) (fun c_4 => ?_) (fun c_4 => ?_)
    · skip
      refine v_iconst (v := 2) (pc := 24) C dX12_writes_24 rfl ?_
      refine v_callV (pc := 25) C (40, 0) ck_40 rfl (c_X12_isWrong hG (2) ) 1 wd_1531 wd_68 wd_1528 wd_1530 wd_35 (by decide +kernel) (by decide) (by decide) rfl ([]) rfl (Nat.le_of_ble_eq_true rfl) (by decide) dX12_writes_25 (fun _ _ _ q => q.elim) (fun v9 A9 h9 hR9 => ?_)
      obtain ⟨rfl, hA9, rfl⟩ := hR9
      obtain rfl := hA9.symm
      refine v_st (k2 := 0) (n2 := 0) (st2 := [.int ((V_X12_isWrong g (2)))]) rfl rfl rfl ?_
      refine v_if_eq (pc := 28) (tgt := 35) C dX12_writes_28 (by decide) (fun c_5 => ?_) (fun c_5 => ?_)
      · skip
        exact absurd c_5 (fun q9 => ((show ¬ (1 : Int32) = 0 from by decide)) q9)
      · skip
        refine v_iconst (v := 0) (pc := 31) C dX12_writes_31 rfl ?_
        refine v_goto (tgt := 43) (pc := 32) C dX12_writes_32 (by decide) ?_
        exact v_iret (pc := 43) C (by decide) (by decide) dX12_writes_43 ⟨(congrArg (fun q => some (Value.int q)) (by show _ = _; rw [V_X12_writes, if_neg c_2, if_pos c_4])), rfl, (congrArg (fun q => wm q r) (by show _ = _; rw [S_X12_writes, if_neg c_2, if_pos c_4]))⟩
    · skip
      refine v_iconst (v := 0) (pc := 20) C dX12_writes_20 rfl ?_
      refine v_goto (tgt := 25) (pc := 21) C dX12_writes_21 (by decide) ?_
      refine v_callV (pc := 25) C (40, 0) ck_40 rfl (c_X12_isWrong hG (0) ) 1 wd_1531 wd_68 wd_1528 wd_1530 wd_35 (by decide +kernel) (by decide) (by decide) rfl ([]) rfl (Nat.le_of_ble_eq_true rfl) (by decide) dX12_writes_25 (fun _ _ _ q => q.elim) (fun v9 A9 h9 hR9 => ?_)
      obtain ⟨rfl, hA9, rfl⟩ := hR9
      obtain rfl := hA9.symm
      refine v_st (k2 := 0) (n2 := 0) (st2 := [.int ((V_X12_isWrong g (0)))]) rfl rfl rfl ?_
      refine v_if_eq (pc := 28) (tgt := 35) C dX12_writes_28 (by decide) (fun c_6 => ?_) (fun c_6 => ?_)
      · skip
        refine v_aload_n (pc := 35) C dX12_writes_35 0 rfl rfl ?_
        refine v_get (pc := 36) C (40, 0) (v := .ref (A (62, 0))) ck_40 rfl 20 (by decide) inX12 wd_1408 rfl rfl dX12_writes_36 ?_
        refine v_iload_n (pc := 39) C dX12_writes_39 1 rfl rfl ?_
        refine v_aald (pc := 40) C (62, 0) ck_62 rfl rfl (by (try simp only [Int32.le_iff_toInt_le, Int32.lt_iff_toInt_lt, ← Int32.toInt_inj, vp_in_iff, Int32.reduceToInt] at c_2 c_4 c_6 b_1 b_3 hu hg hf ⊢) <;> omega) (63, (x).toNatClampNeg) rfl dX12_writes_40 ?_
        refine v_iload_n (pc := 41) C dX12_writes_41 2 rfl rfl ?_
        refine v_iald (pc := 42) C (63, (x).toNatClampNeg) (v := (g 63 (x).toNatClampNeg (y).toNatClampNeg)) (ck_63 (g := (S_X12_isWrong g (0))) (tn_lt (by (try simp only [Int32.le_iff_toInt_le, Int32.lt_iff_toInt_lt, ← Int32.toInt_inj, Int32.reduceToInt] at c_2 c_4 c_6 b_1 b_3 hu hg hf ⊢); omega))) (by (try simp only [Int32.le_iff_toInt_le, Int32.lt_iff_toInt_lt, ← Int32.toInt_inj, vp_in_iff, Int32.reduceToInt] at c_2 c_4 c_6 b_1 b_3 hu hg hf ⊢) <;> omega) (F_X12_isWrong (by decide)) dX12_writes_42 ?_
        exact v_iret (pc := 43) C (by decide) (by decide) dX12_writes_43 ⟨(congrArg (fun q => some (Value.int q)) (by show _ = _; rw [V_X12_writes, if_neg c_2, if_neg c_4])), rfl, (congrArg (fun q => wm q r) (by show _ = _; rw [S_X12_writes, if_neg c_2, if_neg c_4]))⟩
      · skip
        exact absurd c_6 (fun q9 => q9 ((show (0 : Int32) = 0 from rfl)))
  · skip
    refine v_iconst (v := 1) (pc := 9) C dX12_writes_9 rfl ?_
    refine v_goto (tgt := 25) (pc := 10) C dX12_writes_10 (by decide) ?_
    refine v_callV (pc := 25) C (40, 0) ck_40 rfl (c_X12_isWrong hG (1) ) 1 wd_1531 wd_68 wd_1528 wd_1530 wd_35 (by decide +kernel) (by decide) (by decide) rfl ([]) rfl (Nat.le_of_ble_eq_true rfl) (by decide) dX12_writes_25 (fun _ _ _ q => q.elim) (fun v9 A9 h9 hR9 => ?_)
    obtain ⟨rfl, hA9, rfl⟩ := hR9
    obtain rfl := hA9.symm
    refine v_st (k2 := 0) (n2 := 0) (st2 := [.int ((V_X12_isWrong g (1)))]) rfl rfl rfl ?_
    refine v_if_eq (pc := 28) (tgt := 35) C dX12_writes_28 (by decide) (fun c_7 => ?_) (fun c_7 => ?_)
    · skip
      exact absurd c_7 (fun q9 => ((show ¬ (1 : Int32) = 0 from by decide)) q9)
    · skip
      refine v_iconst (v := 0) (pc := 31) C dX12_writes_31 rfl ?_
      refine v_goto (tgt := 43) (pc := 32) C dX12_writes_32 (by decide) ?_
      exact v_iret (pc := 43) C (by decide) (by decide) dX12_writes_43 ⟨(congrArg (fun q => some (Value.int q)) (by show _ = _; rw [V_X12_writes, if_pos c_2])), rfl, (congrArg (fun q => wm q r) (by show _ = _; rw [S_X12_writes, if_pos c_2]))⟩
def V_X12_cipher (g : vS) (x : Int32) (y : Int32) : Int32 := (if (V_X12_isNotThere g (1) (x) (y)) = 0 then (g 65 (x).toNatClampNeg (y).toNatClampNeg) else 0)
def S_X12_cipher (g : vS) (x : Int32) (y : Int32) : vS := (S_X12_isNotThere g (1) (x) (y))
theorem F_X12_cipher {g : vS} {x : Int32} {y : Int32} {c i j : Nat} (h1 : c ≠ 1) : S_X12_cipher g x y c i j = g c i j := by
  unfold S_X12_cipher
  (repeat' split) <;> first | rfl | ((simp only [s3_k h1, F_X12_isNotThere h1]) <;> first | done | rfl)
set_option maxHeartbeats 4000000 in
set_option maxRecDepth 100000 in
theorem c_X12_cipher {G : vG} (hG : G.1.stackTraces = false) {A : vN → Nat} {g : vS} {r : vH} (x : Int32) (y : Int32) (hu0 : 0 ≤ (g 2 0 0).toInt) (hu : (g 2 0 0).toInt ≤ 6) (hg0 : 0 ≤ (g 3 0 0).toInt) (hg : (g 3 0 0).toInt ≤ 5) (hf0 : 0 ≤ (g 4 0 0).toInt) (hf : (g 4 0 0).toInt ≤ 20) (h1 : vM1 g) (h2 : vM2 g) (h3 : vM3 g) : vCt G yX12_cipher cX12_cipher 3 (some .int) 3 [.ref (A (40, 0)), .int (x), .int (y)] A (wm g r) (fun v A2 h2 => v = some (.int (V_X12_cipher g x y)) ∧ A2 = A ∧ h2 = wm (S_X12_cipher g x y) r) (vNoX) 0 0 := by
  refine v_of hG (by decide +kernel) (Nat.le_of_ble_eq_true rfl) (lv := [(0, .ref (A (40, 0))), (1, .int (x)), (2, .int (y))]) rfl (fun X C hnx => ?_)
  have C : vC G X cX12_cipher 3 RX12 (some .int) "cipher" 3 0 0 := C
  refine v_aload_n (pc := 0) C dX12_cipher_0 0 rfl rfl ?_
  refine v_iconst (v := 1) (pc := 1) C dX12_cipher_1 rfl ?_
  refine v_iload_n (pc := 2) C dX12_cipher_2 1 rfl rfl ?_
  refine v_iload_n (pc := 3) C dX12_cipher_3 2 rfl rfl ?_
  refine v_callV (pc := 4) C (40, 0) ck_40 rfl (c_X12_isNotThere hG (1) (x) (y) hu0 hu hg0 hg hf0 hf) 3 wd_1640 wd_68 wd_1637 wd_1639 wd_50 (by decide +kernel) (by decide) (by decide) rfl ([]) rfl (Nat.le_of_ble_eq_true rfl) (by decide) dX12_cipher_4 (fun _ _ _ q => q.elim) (fun v9 A9 h9 hR9 => ?_)
  obtain ⟨rfl, hA9, rfl⟩ := hR9
  obtain rfl := hA9.symm
  refine v_st (k2 := 0) (n2 := 0) (st2 := [.int ((V_X12_isNotThere g (1) (x) (y)))]) rfl rfl rfl ?_
  have b_1 := ok_notThere (g := g) (zz := 1) (x := x) (y := y) hf0
  refine v_if_eq (pc := 7) (tgt := 14) C dX12_cipher_7 (by decide) (fun c_2 => ?_) (fun c_2 => ?_)
  · skip
    refine v_aload_n (pc := 14) C dX12_cipher_14 0 rfl rfl ?_
    refine v_get (pc := 15) C (40, 0) (v := .ref (A (64, 0))) ck_40 rfl 21 (by decide) inX12 wd_1409 rfl rfl dX12_cipher_15 ?_
    refine v_iload_n (pc := 18) C dX12_cipher_18 1 rfl rfl ?_
    refine v_aald (pc := 19) C (64, 0) ck_64 rfl rfl (by (try simp only [Int32.le_iff_toInt_le, Int32.lt_iff_toInt_lt, ← Int32.toInt_inj, vp_in_iff, Int32.reduceToInt] at c_2 b_1 hu hg hf ⊢) <;> omega) (65, (x).toNatClampNeg) rfl dX12_cipher_19 ?_
    refine v_iload_n (pc := 20) C dX12_cipher_20 2 rfl rfl ?_
    refine v_iald (pc := 21) C (65, (x).toNatClampNeg) (v := (g 65 (x).toNatClampNeg (y).toNatClampNeg)) (ck_65 (g := (S_X12_isNotThere g (1) (x) (y))) (tn_lt (by (try simp only [Int32.le_iff_toInt_le, Int32.lt_iff_toInt_lt, ← Int32.toInt_inj, Int32.reduceToInt] at c_2 b_1 hu hg hf ⊢); omega))) (by (try simp only [Int32.le_iff_toInt_le, Int32.lt_iff_toInt_lt, ← Int32.toInt_inj, vp_in_iff, Int32.reduceToInt] at c_2 b_1 hu hg hf ⊢) <;> omega) (F_X12_isNotThere (by decide)) dX12_cipher_21 ?_
    exact v_iret (pc := 22) C (by decide) (by decide) dX12_cipher_22 ⟨(congrArg (fun q => some (Value.int q)) (by show _ = _; rw [V_X12_cipher, if_pos c_2])), rfl, (congrArg (fun q => wm q r) (by show _ = _; rw [S_X12_cipher]))⟩
  · skip
    refine v_iconst (v := 0) (pc := 10) C dX12_cipher_10 rfl ?_
    refine v_goto (tgt := 22) (pc := 11) C dX12_cipher_11 (by decide) ?_
    exact v_iret (pc := 22) C (by decide) (by decide) dX12_cipher_22 ⟨(congrArg (fun q => some (Value.int q)) (by show _ = _; rw [V_X12_cipher, if_neg c_2])), rfl, (congrArg (fun q => wm q r) (by show _ = _; rw [S_X12_cipher]))⟩
def V_X12_version (g : vS) (x : Int32) (y : Int32) : Int32 := (if (V_X12_isNotThere g (1) (x) (y)) = 0 then (g 61 (x).toNatClampNeg (y).toNatClampNeg) else 0)
def S_X12_version (g : vS) (x : Int32) (y : Int32) : vS := (S_X12_isNotThere g (1) (x) (y))
theorem F_X12_version {g : vS} {x : Int32} {y : Int32} {c i j : Nat} (h1 : c ≠ 1) : S_X12_version g x y c i j = g c i j := by
  unfold S_X12_version
  (repeat' split) <;> first | rfl | ((simp only [s3_k h1, F_X12_isNotThere h1]) <;> first | done | rfl)
set_option maxHeartbeats 4000000 in
set_option maxRecDepth 100000 in
theorem c_X12_version {G : vG} (hG : G.1.stackTraces = false) {A : vN → Nat} {g : vS} {r : vH} (x : Int32) (y : Int32) (hu0 : 0 ≤ (g 2 0 0).toInt) (hu : (g 2 0 0).toInt ≤ 6) (hg0 : 0 ≤ (g 3 0 0).toInt) (hg : (g 3 0 0).toInt ≤ 5) (hf0 : 0 ≤ (g 4 0 0).toInt) (hf : (g 4 0 0).toInt ≤ 20) (h1 : vM1 g) (h2 : vM2 g) (h3 : vM3 g) : vCt G yX12_version cX12_version 3 (some .int) 3 [.ref (A (40, 0)), .int (x), .int (y)] A (wm g r) (fun v A2 h2 => v = some (.int (V_X12_version g x y)) ∧ A2 = A ∧ h2 = wm (S_X12_version g x y) r) (vNoX) 0 0 := by
  refine v_of hG (by decide +kernel) (Nat.le_of_ble_eq_true rfl) (lv := [(0, .ref (A (40, 0))), (1, .int (x)), (2, .int (y))]) rfl (fun X C hnx => ?_)
  have C : vC G X cX12_version 3 RX12 (some .int) "version" 3 0 0 := C
  refine v_aload_n (pc := 0) C dX12_version_0 0 rfl rfl ?_
  refine v_iconst (v := 1) (pc := 1) C dX12_version_1 rfl ?_
  refine v_iload_n (pc := 2) C dX12_version_2 1 rfl rfl ?_
  refine v_iload_n (pc := 3) C dX12_version_3 2 rfl rfl ?_
  refine v_callV (pc := 4) C (40, 0) ck_40 rfl (c_X12_isNotThere hG (1) (x) (y) hu0 hu hg0 hg hf0 hf) 3 wd_1640 wd_68 wd_1637 wd_1639 wd_50 (by decide +kernel) (by decide) (by decide) rfl ([]) rfl (Nat.le_of_ble_eq_true rfl) (by decide) dX12_version_4 (fun _ _ _ q => q.elim) (fun v9 A9 h9 hR9 => ?_)
  obtain ⟨rfl, hA9, rfl⟩ := hR9
  obtain rfl := hA9.symm
  refine v_st (k2 := 0) (n2 := 0) (st2 := [.int ((V_X12_isNotThere g (1) (x) (y)))]) rfl rfl rfl ?_
  have b_1 := ok_notThere (g := g) (zz := 1) (x := x) (y := y) hf0
  refine v_if_eq (pc := 7) (tgt := 14) C dX12_version_7 (by decide) (fun c_2 => ?_) (fun c_2 => ?_)
  · skip
    refine v_aload_n (pc := 14) C dX12_version_14 0 rfl rfl ?_
    refine v_get (pc := 15) C (40, 0) (v := .ref (A (60, 0))) ck_40 rfl 19 (by decide) inX12 wd_1407 rfl rfl dX12_version_15 ?_
    refine v_iload_n (pc := 18) C dX12_version_18 1 rfl rfl ?_
    refine v_aald (pc := 19) C (60, 0) ck_60 rfl rfl (by (try simp only [Int32.le_iff_toInt_le, Int32.lt_iff_toInt_lt, ← Int32.toInt_inj, vp_in_iff, Int32.reduceToInt] at c_2 b_1 hu hg hf ⊢) <;> omega) (61, (x).toNatClampNeg) rfl dX12_version_19 ?_
    refine v_iload_n (pc := 20) C dX12_version_20 2 rfl rfl ?_
    refine v_iald (pc := 21) C (61, (x).toNatClampNeg) (v := (g 61 (x).toNatClampNeg (y).toNatClampNeg)) (ck_61 (g := (S_X12_isNotThere g (1) (x) (y))) (tn_lt (by (try simp only [Int32.le_iff_toInt_le, Int32.lt_iff_toInt_lt, ← Int32.toInt_inj, Int32.reduceToInt] at c_2 b_1 hu hg hf ⊢); omega))) (by (try simp only [Int32.le_iff_toInt_le, Int32.lt_iff_toInt_lt, ← Int32.toInt_inj, vp_in_iff, Int32.reduceToInt] at c_2 b_1 hu hg hf ⊢) <;> omega) (F_X12_isNotThere (by decide)) dX12_version_21 ?_
    have b_3 := h3 (x).toNatClampNeg (y).toNatClampNeg
    have b_4 := h2 (x).toNatClampNeg
    exact v_iret (pc := 22) C (by decide) (by decide) dX12_version_22 ⟨(congrArg (fun q => some (Value.int q)) (by show _ = _; rw [V_X12_version, if_pos c_2])), rfl, (congrArg (fun q => wm q r) (by show _ = _; rw [S_X12_version]))⟩
  · skip
    refine v_iconst (v := 0) (pc := 10) C dX12_version_10 rfl ?_
    refine v_goto (tgt := 22) (pc := 11) C dX12_version_11 (by decide) ?_
    exact v_iret (pc := 22) C (by decide) (by decide) dX12_version_22 ⟨(congrArg (fun q => some (Value.int q)) (by show _ = _; rw [V_X12_version, if_neg c_2])), rfl, (congrArg (fun q => wm q r) (by show _ = _; rw [S_X12_version]))⟩
def V_X12_spoil (g : vS) (x : Int32) (y : Int32) (z : Int32) : Int32 := (if (V_X12_isNotThere g (1) (x) (y)) = 0 then ((g 65 (x).toNatClampNeg (y).toNatClampNeg) ^^^ z) else 0)
def S_X12_spoil (g : vS) (x : Int32) (y : Int32) (z : Int32) : vS := (if (V_X12_isNotThere g (1) (x) (y)) = 0 then (s3 (S_X12_isNotThere g (1) (x) (y)) 65 (x).toNatClampNeg (y).toNatClampNeg (((g 65 (x).toNatClampNeg (y).toNatClampNeg) ^^^ z))) else (S_X12_isNotThere g (1) (x) (y)))
theorem F_X12_spoil {g : vS} {x : Int32} {y : Int32} {z : Int32} {c i j : Nat} (h1 : c ≠ 1) (h65 : c ≠ 65) : S_X12_spoil g x y z c i j = g c i j := by
  unfold S_X12_spoil
  (repeat' split) <;> first | rfl | ((simp only [s3_k h1, s3_k h65, F_X12_isNotThere h1]) <;> first | done | rfl)
set_option maxHeartbeats 4000000 in
set_option maxRecDepth 100000 in
theorem c_X12_spoil {G : vG} (hG : G.1.stackTraces = false) {A : vN → Nat} {g : vS} {r : vH} (x : Int32) (y : Int32) (z : Int32) (hu0 : 0 ≤ (g 2 0 0).toInt) (hu : (g 2 0 0).toInt ≤ 6) (hg0 : 0 ≤ (g 3 0 0).toInt) (hg : (g 3 0 0).toInt ≤ 5) (hf0 : 0 ≤ (g 4 0 0).toInt) (hf : (g 4 0 0).toInt ≤ 20) (h1 : vM1 g) (h2 : vM2 g) (h3 : vM3 g) : vCt G yX12_spoil cX12_spoil 4 (some .int) 3 [.ref (A (40, 0)), .int (x), .int (y), .int (z)] A (wm g r) (fun v A2 h2 => v = some (.int (V_X12_spoil g x y z)) ∧ A2 = A ∧ h2 = wm (S_X12_spoil g x y z) r) (vNoX) 0 0 := by
  refine v_of hG (by decide +kernel) (Nat.le_of_ble_eq_true rfl) (lv := [(0, .ref (A (40, 0))), (1, .int (x)), (2, .int (y)), (3, .int (z))]) rfl (fun X C hnx => ?_)
  have C : vC G X cX12_spoil 4 RX12 (some .int) "spoil" 3 0 0 := C
  refine v_aload_n (pc := 0) C dX12_spoil_0 0 rfl rfl ?_
  refine v_iconst (v := 1) (pc := 1) C dX12_spoil_1 rfl ?_
  refine v_iload_n (pc := 2) C dX12_spoil_2 1 rfl rfl ?_
  refine v_iload_n (pc := 3) C dX12_spoil_3 2 rfl rfl ?_
  refine v_callV (pc := 4) C (40, 0) ck_40 rfl (c_X12_isNotThere hG (1) (x) (y) hu0 hu hg0 hg hf0 hf) 3 wd_1640 wd_68 wd_1637 wd_1639 wd_50 (by decide +kernel) (by decide) (by decide) rfl ([]) rfl (Nat.le_of_ble_eq_true rfl) (by decide) dX12_spoil_4 (fun _ _ _ q => q.elim) (fun v9 A9 h9 hR9 => ?_)
  obtain ⟨rfl, hA9, rfl⟩ := hR9
  obtain rfl := hA9.symm
  refine v_st (k2 := 0) (n2 := 0) (st2 := [.int ((V_X12_isNotThere g (1) (x) (y)))]) rfl rfl rfl ?_
  have b_1 := ok_notThere (g := g) (zz := 1) (x := x) (y := y) hf0
  refine v_if_eq (pc := 7) (tgt := 12) C dX12_spoil_7 (by decide) (fun c_2 => ?_) (fun c_2 => ?_)
  · skip
    refine v_aload_n (pc := 12) C dX12_spoil_12 0 rfl rfl ?_
    refine v_get (pc := 13) C (40, 0) (v := .ref (A (64, 0))) ck_40 rfl 21 (by decide) inX12 wd_1409 rfl rfl dX12_spoil_13 ?_
    refine v_iload_n (pc := 16) C dX12_spoil_16 1 rfl rfl ?_
    refine v_aald (pc := 17) C (64, 0) ck_64 rfl rfl (by (try simp only [Int32.le_iff_toInt_le, Int32.lt_iff_toInt_lt, ← Int32.toInt_inj, vp_in_iff, Int32.reduceToInt] at c_2 b_1 hu hg hf ⊢) <;> omega) (65, (x).toNatClampNeg) rfl dX12_spoil_17 ?_
    refine v_iload_n (pc := 18) C dX12_spoil_18 2 rfl rfl ?_
    refine v_dup2_11 (pc := 19) C dX12_spoil_19 rfl rfl ?_
    refine v_iald (pc := 20) C (65, (x).toNatClampNeg) (v := (g 65 (x).toNatClampNeg (y).toNatClampNeg)) (ck_65 (g := (S_X12_isNotThere g (1) (x) (y))) (tn_lt (by (try simp only [Int32.le_iff_toInt_le, Int32.lt_iff_toInt_lt, ← Int32.toInt_inj, Int32.reduceToInt] at c_2 b_1 hu hg hf ⊢); omega))) (by (try simp only [Int32.le_iff_toInt_le, Int32.lt_iff_toInt_lt, ← Int32.toInt_inj, vp_in_iff, Int32.reduceToInt] at c_2 b_1 hu hg hf ⊢) <;> omega) (F_X12_isNotThere (by decide)) dX12_spoil_20 ?_
    refine v_iload_n (pc := 21) C dX12_spoil_21 3 rfl rfl ?_
    refine v_ixor (pc := 22) C dX12_spoil_22 ?_
    refine v_iast (pc := 23) C (65, (x).toNatClampNeg) (x := ((g 65 (x).toNatClampNeg (y).toNatClampNeg) ^^^ z)) (ck_65 (g := (S_X12_isNotThere g (1) (x) (y))) (tn_lt (by (try simp only [Int32.le_iff_toInt_le, Int32.lt_iff_toInt_lt, ← Int32.toInt_inj, Int32.reduceToInt] at c_2 b_1 hu hg hf ⊢); omega))) (by (try simp only [Int32.le_iff_toInt_le, Int32.lt_iff_toInt_lt, ← Int32.toInt_inj, vp_in_iff, Int32.reduceToInt] at c_2 b_1 hu hg hf ⊢) <;> omega) dX12_spoil_23 ?_
    refine v_h (h2 := (wm (s3 (S_X12_isNotThere g (1) (x) (y)) 65 (x).toNatClampNeg (y).toNatClampNeg (((g 65 (x).toNatClampNeg (y).toNatClampNeg) ^^^ z))) r)) (u_65_a (g := (S_X12_isNotThere g (1) (x) (y))) (tn_lt (by (try simp only [Int32.le_iff_toInt_le, Int32.lt_iff_toInt_lt, ← Int32.toInt_inj, Int32.reduceToInt] at c_2 b_1 hu hg hf ⊢); omega))) ?_
    refine v_aload_n (pc := 24) C dX12_spoil_24 0 rfl rfl ?_
    refine v_get (pc := 25) C (40, 0) (v := .ref (A (64, 0))) ck_40 rfl 21 (by decide) inX12 wd_1409 rfl rfl dX12_spoil_25 ?_
    refine v_iload_n (pc := 28) C dX12_spoil_28 1 rfl rfl ?_
    refine v_aald (pc := 29) C (64, 0) ck_64 rfl rfl (by (try simp only [Int32.le_iff_toInt_le, Int32.lt_iff_toInt_lt, ← Int32.toInt_inj, vp_in_iff, Int32.reduceToInt] at c_2 b_1 hu hg hf ⊢) <;> omega) (65, (x).toNatClampNeg) rfl dX12_spoil_29 ?_
    refine v_iload_n (pc := 30) C dX12_spoil_30 2 rfl rfl ?_
    refine v_iald (pc := 31) C (65, (x).toNatClampNeg) (v := ((g 65 (x).toNatClampNeg (y).toNatClampNeg) ^^^ z)) (ck_65 (g := (s3 (S_X12_isNotThere g (1) (x) (y)) 65 (x).toNatClampNeg (y).toNatClampNeg (((g 65 (x).toNatClampNeg (y).toNatClampNeg) ^^^ z)))) (tn_lt (by (try simp only [Int32.le_iff_toInt_le, Int32.lt_iff_toInt_lt, ← Int32.toInt_inj, Int32.reduceToInt] at c_2 b_1 hu hg hf ⊢); omega))) (by (try simp only [Int32.le_iff_toInt_le, Int32.lt_iff_toInt_lt, ← Int32.toInt_inj, vp_in_iff, Int32.reduceToInt] at c_2 b_1 hu hg hf ⊢) <;> omega) (s3_s) dX12_spoil_31 ?_
    exact v_iret (pc := 32) C (by decide) (by decide) dX12_spoil_32 ⟨(congrArg (fun q => some (Value.int q)) (by show _ = _; rw [V_X12_spoil, if_pos c_2])), rfl, (congrArg (fun q => wm q r) (by show _ = _; rw [S_X12_spoil, if_pos c_2]))⟩
  · skip
    refine v_iconst (v := 0) (pc := 10) C dX12_spoil_10 rfl ?_
    exact v_iret (pc := 11) C (by decide) (by decide) dX12_spoil_11 ⟨(congrArg (fun q => some (Value.int q)) (by show _ = _; rw [V_X12_spoil, if_neg c_2])), rfl, (congrArg (fun q => wm q r) (by show _ = _; rw [S_X12_spoil, if_neg c_2]))⟩
def V_X12_read (g : vS) (u : Int32) (x : Int32) (y : Int32) : Int32 := (if (V_X12_isNotThere g ((V_X12_isUser g (u))) (x) (y)) = 0 then (if (g 68 (x).toNatClampNeg 0) = 0 then (if (V_X12_isSpoiled (S_X12_isNotThere g ((V_X12_isUser g (u))) (x) (y)) (x)) = 0 then (if (V_X12_reads (S_X12_isNotThere g ((V_X12_isUser g (u))) (x) (y)) (u) (x) (y)) = 0 then 0 else pUnseal ((g 65 (x).toNatClampNeg (y).toNatClampNeg)) ((V_X12_keyOf (S_X12_isWrong (S_X12_isNotThere g ((V_X12_isUser g (u))) (x) (y)) (0)) (x) ((g 61 (x).toNatClampNeg (y).toNatClampNeg)) (y)))) else 0) else 0) else 0)
def S_X12_read (g : vS) (u : Int32) (x : Int32) (y : Int32) : vS := (if (V_X12_isNotThere g ((V_X12_isUser g (u))) (x) (y)) = 0 then (if (g 68 (x).toNatClampNeg 0) = 0 then (if (V_X12_isSpoiled (S_X12_isNotThere g ((V_X12_isUser g (u))) (x) (y)) (x)) = 0 then (if (V_X12_reads (S_X12_isNotThere g ((V_X12_isUser g (u))) (x) (y)) (u) (x) (y)) = 0 then (S_X12_isWrong (S_X12_isNotThere g ((V_X12_isUser g (u))) (x) (y)) (4)) else (S_X12_isWrong (S_X12_isNotThere g ((V_X12_isUser g (u))) (x) (y)) (0))) else (S_X12_isWrong (S_X12_isNotThere g ((V_X12_isUser g (u))) (x) (y)) (3))) else (S_X12_isWrong (S_X12_isNotThere g ((V_X12_isUser g (u))) (x) (y)) (3))) else (S_X12_isNotThere g ((V_X12_isUser g (u))) (x) (y)))
theorem F_X12_read {g : vS} {u : Int32} {x : Int32} {y : Int32} {c i j : Nat} (h1 : c ≠ 1) : S_X12_read g u x y c i j = g c i j := by
  unfold S_X12_read
  (repeat' split) <;> first | rfl | ((simp only [s3_k h1, F_X12_isNotThere h1, F_X12_isWrong h1]) <;> first | done | rfl)
set_option maxHeartbeats 4000000 in
set_option maxRecDepth 100000 in
theorem c_X12_read {G : vG} (hG : G.1.stackTraces = false) {A : vN → Nat} {g : vS} {r : vH} (u : Int32) (x : Int32) (y : Int32) (hu0 : 0 ≤ (g 2 0 0).toInt) (hu : (g 2 0 0).toInt ≤ 6) (hg0 : 0 ≤ (g 3 0 0).toInt) (hg : (g 3 0 0).toInt ≤ 5) (hf0 : 0 ≤ (g 4 0 0).toInt) (hf : (g 4 0 0).toInt ≤ 20) (h1 : vM1 g) (h2 : vM2 g) (h3 : vM3 g) : vCt G yX12_read cX12_read 4 (some .int) 4 [.ref (A (40, 0)), .int (u), .int (x), .int (y)] A (wm g r) (fun v A2 h2 => v = some (.int (V_X12_read g u x y)) ∧ A2 = A ∧ h2 = wm (S_X12_read g u x y) r) (vNoX) 0 0 := by
  refine v_of hG (by decide +kernel) (Nat.le_of_ble_eq_true rfl) (lv := [(0, .ref (A (40, 0))), (1, .int (u)), (2, .int (x)), (3, .int (y))]) rfl (fun X C hnx => ?_)
  have C : vC G X cX12_read 4 RX12 (some .int) "read" 4 0 0 := C
  refine v_aload_n (pc := 0) C dX12_read_0 0 rfl rfl ?_
  refine v_aload_n (pc := 1) C dX12_read_1 0 rfl rfl ?_
  refine v_iload_n (pc := 2) C dX12_read_2 1 rfl rfl ?_
  refine v_callV (pc := 3) C (40, 0) ck_40 rfl (c_X12_isUser hG (u) ) 1 wd_1539 wd_68 wd_1536 wd_1538 wd_36 (by decide +kernel) (by decide) (by decide) rfl ([.ref (A (40, 0))]) rfl (Nat.le_of_ble_eq_true rfl) (by decide) dX12_read_3 (fun _ _ _ q => q.elim) (fun v9 A9 h9 hR9 => ?_)
  obtain ⟨rfl, hA9, rfl⟩ := hR9
  obtain rfl := hA9.symm
  refine v_st (k2 := 0) (n2 := 0) (st2 := [.int ((V_X12_isUser g (u))), .ref (A (40, 0))]) rfl rfl rfl ?_
  have b_1 := ok_isUser (g := g) (x := u) hu0
  refine v_iload_n (pc := 6) C dX12_read_6 2 rfl rfl ?_
  refine v_iload_n (pc := 7) C dX12_read_7 3 rfl rfl ?_
  refine v_callV (pc := 8) C (40, 0) ck_40 rfl (c_X12_isNotThere hG ((V_X12_isUser g (u))) (x) (y) hu0 hu hg0 hg hf0 hf) 3 wd_1640 wd_68 wd_1637 wd_1639 wd_50 (by decide +kernel) (by decide) (by decide) rfl ([]) rfl (Nat.le_of_ble_eq_true rfl) (by decide) dX12_read_8 (fun _ _ _ q => q.elim) (fun v9 A9 h9 hR9 => ?_)
  obtain ⟨rfl, hA9, rfl⟩ := hR9
  obtain rfl := hA9.symm
  refine v_st (k2 := 0) (n2 := 0) (st2 := [.int ((V_X12_isNotThere g ((V_X12_isUser g (u))) (x) (y)))]) rfl rfl rfl ?_
  have b_2 := ok_notThere (g := g) (zz := (V_X12_isUser g (u))) (x := x) (y := y) hf0
  refine v_if_eq (pc := 11) (tgt := 16) C dX12_read_11 (by decide) (fun c_3 => ?_) (fun c_3 => ?_)
  · skip
    refine v_aload_n (pc := 16) C dX12_read_16 0 rfl rfl ?_
    refine v_aload_n (pc := 17) C dX12_read_17 0 rfl rfl ?_
    refine v_get (pc := 18) C (40, 0) (v := .ref (A (68, 0))) ck_40 rfl 23 (by decide) inX12 wd_1411 rfl rfl dX12_read_18 ?_
    refine v_iload_n (pc := 21) C dX12_read_21 2 rfl rfl ?_
    refine v_zald (pc := 22) C (68, 0) (v := (g 68 (x).toNatClampNeg 0)) ck_68 (by (try simp only [Int32.le_iff_toInt_le, Int32.lt_iff_toInt_lt, ← Int32.toInt_inj, vp_in_iff, Int32.reduceToInt] at c_3 b_1 b_2 hu hg hf ⊢) <;> omega) (F_X12_isNotThere (by decide)) dX12_read_22 ?_
    refine v_if_ne (pc := 23) (tgt := 34) C dX12_read_23 (by decide) (fun c_4 => ?_) (fun c_4 => ?_)
    · skip
      refine v_iconst (v := 3) (pc := 34) C dX12_read_34 rfl ?_
      refine v_goto (tgt := 53) (pc := 35) C dX12_read_35 (by decide) ?_
      refine v_callV (pc := 53) C (40, 0) ck_40 rfl (c_X12_isWrong hG (3) ) 1 wd_1531 wd_68 wd_1528 wd_1530 wd_35 (by decide +kernel) (by decide) (by decide) rfl ([]) rfl (Nat.le_of_ble_eq_true rfl) (by decide) dX12_read_53 (fun _ _ _ q => q.elim) (fun v9 A9 h9 hR9 => ?_)
      obtain ⟨rfl, hA9, rfl⟩ := hR9
      obtain rfl := hA9.symm
      refine v_st (k2 := 0) (n2 := 0) (st2 := [.int ((V_X12_isWrong (S_X12_isNotThere g ((V_X12_isUser g (u))) (x) (y)) (3)))]) rfl rfl rfl ?_
      refine v_if_eq (pc := 56) (tgt := 61) C dX12_read_56 (by decide) (fun c_5 => ?_) (fun c_5 => ?_)
      · skip
        exact absurd c_5 (fun q9 => ((show ¬ (1 : Int32) = 0 from by decide)) q9)
      · skip
        refine v_iconst (v := 0) (pc := 59) C dX12_read_59 rfl ?_
        exact v_iret (pc := 60) C (by decide) (by decide) dX12_read_60 ⟨(congrArg (fun q => some (Value.int q)) (by show _ = _; rw [V_X12_read, if_pos c_3, if_neg c_4])), rfl, (congrArg (fun q => wm q r) (by show _ = _; rw [S_X12_read, if_pos c_3, if_neg c_4]))⟩
    · skip
      refine v_aload_n (pc := 26) C dX12_read_26 0 rfl rfl ?_
      refine v_iload_n (pc := 27) C dX12_read_27 2 rfl rfl ?_
      refine v_callV (pc := 28) C (40, 0) ck_40 rfl (c_X12_isSpoiled hG (x) (by rw [show (S_X12_isNotThere g ((V_X12_isUser g (u))) (x) (y)) 2 0 0 = g 2 0 0 from F_X12_isNotThere (by decide)]; exact hu0) (by rw [show (S_X12_isNotThere g ((V_X12_isUser g (u))) (x) (y)) 2 0 0 = g 2 0 0 from F_X12_isNotThere (by decide)]; exact hu) (by rw [show (S_X12_isNotThere g ((V_X12_isUser g (u))) (x) (y)) 3 0 0 = g 3 0 0 from F_X12_isNotThere (by decide)]; exact hg0) (by rw [show (S_X12_isNotThere g ((V_X12_isUser g (u))) (x) (y)) 3 0 0 = g 3 0 0 from F_X12_isNotThere (by decide)]; exact hg) (by rw [show (S_X12_isNotThere g ((V_X12_isUser g (u))) (x) (y)) 4 0 0 = g 4 0 0 from F_X12_isNotThere (by decide)]; exact hf0) (by rw [show (S_X12_isNotThere g ((V_X12_isUser g (u))) (x) (y)) 4 0 0 = g 4 0 0 from F_X12_isNotThere (by decide)]; exact hf) (by (try simp only [Int32.le_iff_toInt_le, Int32.lt_iff_toInt_lt, ← Int32.toInt_inj, Int32.reduceToInt] at c_3 c_4 b_1 b_2 hu hg hf ⊢); omega) (by (try simp only [Int32.le_iff_toInt_le, Int32.lt_iff_toInt_lt, ← Int32.toInt_inj, Int32.reduceToInt] at c_3 c_4 b_1 b_2 hu hg hf ⊢); omega)) 1 wd_1570 wd_68 wd_1567 wd_1569 wd_40 (by decide +kernel) (by decide) (by decide) rfl ([.ref (A (40, 0))]) rfl (Nat.le_of_ble_eq_true rfl) (by decide) dX12_read_28 (fun _ _ _ q => q.elim) (fun v9 A9 h9 hR9 => ?_)
      obtain ⟨rfl, hA9, rfl⟩ := hR9
      obtain rfl := hA9.symm
      refine v_st (k2 := 0) (n2 := 0) (st2 := [.int ((V_X12_isSpoiled (S_X12_isNotThere g ((V_X12_isUser g (u))) (x) (y)) (x))), .ref (A (40, 0))]) rfl rfl rfl ?_
      refine v_if_eq (pc := 31) (tgt := 38) C dX12_read_31 (by decide) (fun c_6 => ?_) (fun c_6 => ?_)
      · skip
        refine v_aload_n (pc := 38) C dX12_read_38 0 rfl rfl ?_
        refine v_iload_n (pc := 39) C dX12_read_39 1 rfl rfl ?_
        refine v_iload_n (pc := 40) C dX12_read_40 2 rfl rfl ?_
        refine v_iload_n (pc := 41) C dX12_read_41 3 rfl rfl ?_
        refine v_callV (pc := 42) C (40, 0) ck_40 rfl (c_X12_reads hG (u) (x) (y) (by rw [show (S_X12_isNotThere g ((V_X12_isUser g (u))) (x) (y)) 2 0 0 = g 2 0 0 from F_X12_isNotThere (by decide)]; exact hu0) (by rw [show (S_X12_isNotThere g ((V_X12_isUser g (u))) (x) (y)) 2 0 0 = g 2 0 0 from F_X12_isNotThere (by decide)]; exact hu) (by rw [show (S_X12_isNotThere g ((V_X12_isUser g (u))) (x) (y)) 3 0 0 = g 3 0 0 from F_X12_isNotThere (by decide)]; exact hg0) (by rw [show (S_X12_isNotThere g ((V_X12_isUser g (u))) (x) (y)) 3 0 0 = g 3 0 0 from F_X12_isNotThere (by decide)]; exact hg) (by rw [show (S_X12_isNotThere g ((V_X12_isUser g (u))) (x) (y)) 4 0 0 = g 4 0 0 from F_X12_isNotThere (by decide)]; exact hf0) (by rw [show (S_X12_isNotThere g ((V_X12_isUser g (u))) (x) (y)) 4 0 0 = g 4 0 0 from F_X12_isNotThere (by decide)]; exact hf) (by (try simp only [Int32.le_iff_toInt_le, Int32.lt_iff_toInt_lt, ← Int32.toInt_inj, Int32.reduceToInt] at c_3 c_4 c_6 b_1 b_2 hu hg hf ⊢); omega) (by (try simp only [Int32.le_iff_toInt_le, Int32.lt_iff_toInt_lt, ← Int32.toInt_inj, Int32.reduceToInt] at c_3 c_4 c_6 b_1 b_2 hu hg hf ⊢); omega) (by (try simp only [Int32.le_iff_toInt_le, Int32.lt_iff_toInt_lt, ← Int32.toInt_inj, Int32.reduceToInt] at c_3 c_4 c_6 b_1 b_2 hu hg hf ⊢); omega) (by (try simp only [Int32.le_iff_toInt_le, Int32.lt_iff_toInt_lt, ← Int32.toInt_inj, Int32.reduceToInt] at c_3 c_4 c_6 b_1 b_2 hu hg hf ⊢); omega) (by (try simp only [Int32.le_iff_toInt_le, Int32.lt_iff_toInt_lt, ← Int32.toInt_inj, Int32.reduceToInt] at c_3 c_4 c_6 b_1 b_2 hu hg hf ⊢); omega) (by (try simp only [Int32.le_iff_toInt_le, Int32.lt_iff_toInt_lt, ← Int32.toInt_inj, Int32.reduceToInt] at c_3 c_4 c_6 b_1 b_2 hu hg hf ⊢); omega) (vM1_k (fun _ _ => F_X12_isNotThere (by decide)) h1) (vM2_k (fun _ _ => F_X12_isNotThere (by decide)) (fun _ _ => F_X12_isNotThere (by decide)) h2) (vM3_k (fun _ _ => F_X12_isNotThere (by decide)) (fun _ _ => F_X12_isNotThere (by decide)) h3)) 3 wd_1644 wd_68 wd_1641 wd_1643 wd_51 (by decide +kernel) (by decide) (by decide) rfl ([.ref (A (40, 0))]) rfl (Nat.le_of_ble_eq_true rfl) (by decide) dX12_read_42 (fun _ _ _ q => q.elim) (fun v9 A9 h9 hR9 => ?_)
        obtain ⟨rfl, hA9, rfl⟩ := hR9
        obtain rfl := hA9.symm
        refine v_st (k2 := 0) (n2 := 0) (st2 := [.int ((V_X12_reads (S_X12_isNotThere g ((V_X12_isUser g (u))) (x) (y)) (u) (x) (y))), .ref (A (40, 0))]) rfl rfl rfl ?_
        refine v_if_eq (pc := 45) (tgt := 52) C dX12_read_45 (by decide) (fun c_7 => ?_) (fun c_7 => ?_)
        · skip
          refine v_iconst (v := 4) (pc := 52) C dX12_read_52 rfl ?_
          refine v_callV (pc := 53) C (40, 0) ck_40 rfl (c_X12_isWrong hG (4) ) 1 wd_1531 wd_68 wd_1528 wd_1530 wd_35 (by decide +kernel) (by decide) (by decide) rfl ([]) rfl (Nat.le_of_ble_eq_true rfl) (by decide) dX12_read_53 (fun _ _ _ q => q.elim) (fun v9 A9 h9 hR9 => ?_)
          obtain ⟨rfl, hA9, rfl⟩ := hR9
          obtain rfl := hA9.symm
          refine v_st (k2 := 0) (n2 := 0) (st2 := [.int ((V_X12_isWrong (S_X12_isNotThere g ((V_X12_isUser g (u))) (x) (y)) (4)))]) rfl rfl rfl ?_
          refine v_if_eq (pc := 56) (tgt := 61) C dX12_read_56 (by decide) (fun c_8 => ?_) (fun c_8 => ?_)
          · skip
            exact absurd c_8 (fun q9 => ((show ¬ (1 : Int32) = 0 from by decide)) q9)
          · skip
            refine v_iconst (v := 0) (pc := 59) C dX12_read_59 rfl ?_
            exact v_iret (pc := 60) C (by decide) (by decide) dX12_read_60 ⟨(congrArg (fun q => some (Value.int q)) (by show _ = _; rw [V_X12_read, if_pos c_3, if_pos c_4, if_pos c_6, if_pos c_7])), rfl, (congrArg (fun q => wm q r) (by show _ = _; rw [S_X12_read, if_pos c_3, if_pos c_4, if_pos c_6, if_pos c_7]))⟩
        · skip
          refine v_iconst (v := 0) (pc := 48) C dX12_read_48 rfl ?_
          refine v_goto (tgt := 53) (pc := 49) C dX12_read_49 (by decide) ?_
          refine v_callV (pc := 53) C (40, 0) ck_40 rfl (c_X12_isWrong hG (0) ) 1 wd_1531 wd_68 wd_1528 wd_1530 wd_35 (by decide +kernel) (by decide) (by decide) rfl ([]) rfl (Nat.le_of_ble_eq_true rfl) (by decide) dX12_read_53 (fun _ _ _ q => q.elim) (fun v9 A9 h9 hR9 => ?_)
          obtain ⟨rfl, hA9, rfl⟩ := hR9
          obtain rfl := hA9.symm
          refine v_st (k2 := 0) (n2 := 0) (st2 := [.int ((V_X12_isWrong (S_X12_isNotThere g ((V_X12_isUser g (u))) (x) (y)) (0)))]) rfl rfl rfl ?_
          refine v_if_eq (pc := 56) (tgt := 61) C dX12_read_56 (by decide) (fun c_9 => ?_) (fun c_9 => ?_)
          · skip
            refine v_aload_n (pc := 61) C dX12_read_61 0 rfl rfl ?_
            refine v_get (pc := 62) C (40, 0) (v := .ref (A (64, 0))) ck_40 rfl 21 (by decide) inX12 wd_1409 rfl rfl dX12_read_62 ?_
            refine v_iload_n (pc := 65) C dX12_read_65 2 rfl rfl ?_
            refine v_aald (pc := 66) C (64, 0) ck_64 rfl rfl (by (try simp only [Int32.le_iff_toInt_le, Int32.lt_iff_toInt_lt, ← Int32.toInt_inj, vp_in_iff, Int32.reduceToInt] at c_3 c_4 c_6 c_7 c_9 b_1 b_2 hu hg hf ⊢) <;> omega) (65, (x).toNatClampNeg) rfl dX12_read_66 ?_
            refine v_iload_n (pc := 67) C dX12_read_67 3 rfl rfl ?_
            refine v_iald (pc := 68) C (65, (x).toNatClampNeg) (v := (g 65 (x).toNatClampNeg (y).toNatClampNeg)) (ck_65 (g := (S_X12_isWrong (S_X12_isNotThere g ((V_X12_isUser g (u))) (x) (y)) (0))) (tn_lt (by (try simp only [Int32.le_iff_toInt_le, Int32.lt_iff_toInt_lt, ← Int32.toInt_inj, Int32.reduceToInt] at c_3 c_4 c_6 c_7 c_9 b_1 b_2 hu hg hf ⊢); omega))) (by (try simp only [Int32.le_iff_toInt_le, Int32.lt_iff_toInt_lt, ← Int32.toInt_inj, vp_in_iff, Int32.reduceToInt] at c_3 c_4 c_6 c_7 c_9 b_1 b_2 hu hg hf ⊢) <;> omega) ((F_X12_isWrong (by decide)).trans (F_X12_isNotThere (by decide))) dX12_read_68 ?_
            refine v_iload_n (pc := 69) C dX12_read_69 2 rfl rfl ?_
            refine v_aload_n (pc := 70) C dX12_read_70 0 rfl rfl ?_
            refine v_get (pc := 71) C (40, 0) (v := .ref (A (60, 0))) ck_40 rfl 19 (by decide) inX12 wd_1407 rfl rfl dX12_read_71 ?_
            refine v_iload_n (pc := 74) C dX12_read_74 2 rfl rfl ?_
            refine v_aald (pc := 75) C (60, 0) ck_60 rfl rfl (by (try simp only [Int32.le_iff_toInt_le, Int32.lt_iff_toInt_lt, ← Int32.toInt_inj, vp_in_iff, Int32.reduceToInt] at c_3 c_4 c_6 c_7 c_9 b_1 b_2 hu hg hf ⊢) <;> omega) (61, (x).toNatClampNeg) rfl dX12_read_75 ?_
            refine v_iload_n (pc := 76) C dX12_read_76 3 rfl rfl ?_
            refine v_iald (pc := 77) C (61, (x).toNatClampNeg) (v := (g 61 (x).toNatClampNeg (y).toNatClampNeg)) (ck_61 (g := (S_X12_isWrong (S_X12_isNotThere g ((V_X12_isUser g (u))) (x) (y)) (0))) (tn_lt (by (try simp only [Int32.le_iff_toInt_le, Int32.lt_iff_toInt_lt, ← Int32.toInt_inj, Int32.reduceToInt] at c_3 c_4 c_6 c_7 c_9 b_1 b_2 hu hg hf ⊢); omega))) (by (try simp only [Int32.le_iff_toInt_le, Int32.lt_iff_toInt_lt, ← Int32.toInt_inj, vp_in_iff, Int32.reduceToInt] at c_3 c_4 c_6 c_7 c_9 b_1 b_2 hu hg hf ⊢) <;> omega) ((F_X12_isWrong (by decide)).trans (F_X12_isNotThere (by decide))) dX12_read_77 ?_
            have b_10 := h3 (x).toNatClampNeg (y).toNatClampNeg
            have b_11 := h2 (x).toNatClampNeg
            refine v_iload_n (pc := 78) C dX12_read_78 3 rfl rfl ?_
            refine v_callS (pc := 79) C (c_X12_keyOf hG (x) ((g 61 (x).toNatClampNeg (y).toNatClampNeg)) (y) ) 3 wd_1585 wd_68 wd_1583 wd_1584 (by decide +kernel) (by decide) (by decide) rfl ([.int ((g 65 (x).toNatClampNeg (y).toNatClampNeg))]) rfl (Nat.le_of_ble_eq_true rfl) (by decide) dX12_read_79 (fun _ _ _ q => q.elim) (fun v9 A9 h9 hR9 => ?_)
            obtain ⟨rfl, hA9, rfl⟩ := hR9
            obtain rfl := hA9.symm
            refine v_st (k2 := 0) (n2 := 0) (st2 := [.int ((V_X12_keyOf (S_X12_isWrong (S_X12_isNotThere g ((V_X12_isUser g (u))) (x) (y)) (0)) (x) ((g 61 (x).toNatClampNeg (y).toNatClampNeg)) (y))), .int ((g 65 (x).toNatClampNeg (y).toNatClampNeg))]) rfl rfl rfl ?_
            refine v_callS (pc := 82) C (c_X12_opens hG ((g 65 (x).toNatClampNeg (y).toNatClampNeg)) ((V_X12_keyOf (S_X12_isWrong (S_X12_isNotThere g ((V_X12_isUser g (u))) (x) (y)) (0)) (x) ((g 61 (x).toNatClampNeg (y).toNatClampNeg)) (y)))) 2 wd_1647 wd_68 wd_1645 wd_1646 (by decide +kernel) (by decide) (by decide) rfl ([]) rfl (Nat.le_of_ble_eq_true rfl) (by decide) dX12_read_82 (fun _ _ _ q => q.elim) (fun v9 A9 h9 hR9 => ?_)
            obtain ⟨rfl, hA9, rfl⟩ := hR9
            obtain rfl := hA9.symm
            refine v_st (k2 := 0) (n2 := 0) (st2 := [.int (pUnseal ((g 65 (x).toNatClampNeg (y).toNatClampNeg)) ((V_X12_keyOf (S_X12_isWrong (S_X12_isNotThere g ((V_X12_isUser g (u))) (x) (y)) (0)) (x) ((g 61 (x).toNatClampNeg (y).toNatClampNeg)) (y))))]) rfl rfl rfl ?_
            exact v_iret (pc := 85) C (by decide) (by decide) dX12_read_85 ⟨(congrArg (fun q => some (Value.int q)) (by show _ = _; rw [V_X12_read, if_pos c_3, if_pos c_4, if_pos c_6, if_neg c_7])), rfl, (congrArg (fun q => wm q r) (by show _ = _; rw [S_X12_read, if_pos c_3, if_pos c_4, if_pos c_6, if_neg c_7]))⟩
          · skip
            exact absurd c_9 (fun q9 => q9 ((show (0 : Int32) = 0 from rfl)))
      · skip
        refine v_iconst (v := 3) (pc := 34) C dX12_read_34 rfl ?_
        refine v_goto (tgt := 53) (pc := 35) C dX12_read_35 (by decide) ?_
        refine v_callV (pc := 53) C (40, 0) ck_40 rfl (c_X12_isWrong hG (3) ) 1 wd_1531 wd_68 wd_1528 wd_1530 wd_35 (by decide +kernel) (by decide) (by decide) rfl ([]) rfl (Nat.le_of_ble_eq_true rfl) (by decide) dX12_read_53 (fun _ _ _ q => q.elim) (fun v9 A9 h9 hR9 => ?_)
        obtain ⟨rfl, hA9, rfl⟩ := hR9
        obtain rfl := hA9.symm
        refine v_st (k2 := 0) (n2 := 0) (st2 := [.int ((V_X12_isWrong (S_X12_isNotThere g ((V_X12_isUser g (u))) (x) (y)) (3)))]) rfl rfl rfl ?_
        refine v_if_eq (pc := 56) (tgt := 61) C dX12_read_56 (by decide) (fun c_12 => ?_) (fun c_12 => ?_)
        · skip
          exact absurd c_12 (fun q9 => ((show ¬ (1 : Int32) = 0 from by decide)) q9)
        · skip
          refine v_iconst (v := 0) (pc := 59) C dX12_read_59 rfl ?_
          exact v_iret (pc := 60) C (by decide) (by decide) dX12_read_60 ⟨(congrArg (fun q => some (Value.int q)) (by show _ = _; rw [V_X12_read, if_pos c_3, if_pos c_4, if_neg c_6])), rfl, (congrArg (fun q => wm q r) (by show _ = _; rw [S_X12_read, if_pos c_3, if_pos c_4, if_neg c_6]))⟩
  · skip
    refine v_iconst (v := 0) (pc := 14) C dX12_read_14 rfl ?_
    exact v_iret (pc := 15) C (by decide) (by decide) dX12_read_15 ⟨(congrArg (fun q => some (Value.int q)) (by show _ = _; rw [V_X12_read, if_neg c_3])), rfl, (congrArg (fun q => wm q r) (by show _ = _; rw [S_X12_read, if_neg c_3]))⟩
def V_X12_canRead (g : vS) (u : Int32) (x : Int32) (y : Int32) : Int32 := (if (V_X12_isNotThere g ((V_X12_isUser g (u))) (x) (y)) = 0 then (if (V_X12_reads (S_X12_isNotThere g ((V_X12_isUser g (u))) (x) (y)) (u) (x) (y)) = 0 then 0 else 1) else 0)
theorem B_X12_canRead {g : vS} {u : Int32} {x : Int32} {y : Int32} : V_X12_canRead g u x y = 0 ∨ V_X12_canRead g u x y = 1 := by
  unfold V_X12_canRead
  (repeat' split) <;> first | exact Or.inl rfl | exact Or.inr rfl
def S_X12_canRead (g : vS) (u : Int32) (x : Int32) (y : Int32) : vS := (S_X12_isNotThere g ((V_X12_isUser g (u))) (x) (y))
theorem F_X12_canRead {g : vS} {u : Int32} {x : Int32} {y : Int32} {c i j : Nat} (h1 : c ≠ 1) : S_X12_canRead g u x y c i j = g c i j := by
  unfold S_X12_canRead
  (repeat' split) <;> first | rfl | ((simp only [s3_k h1, F_X12_isNotThere h1]) <;> first | done | rfl)
set_option maxHeartbeats 4000000 in
set_option maxRecDepth 100000 in
theorem c_X12_canRead {G : vG} (hG : G.1.stackTraces = false) {A : vN → Nat} {g : vS} {r : vH} (u : Int32) (x : Int32) (y : Int32) (hu0 : 0 ≤ (g 2 0 0).toInt) (hu : (g 2 0 0).toInt ≤ 6) (hg0 : 0 ≤ (g 3 0 0).toInt) (hg : (g 3 0 0).toInt ≤ 5) (hf0 : 0 ≤ (g 4 0 0).toInt) (hf : (g 4 0 0).toInt ≤ 20) (h1 : vM1 g) (h2 : vM2 g) (h3 : vM3 g) : vCt G yX12_canRead cX12_canRead 4 (some .boolean) 3 [.ref (A (40, 0)), .int (u), .int (x), .int (y)] A (wm g r) (fun v A2 h2 => v = some (.int (V_X12_canRead g u x y)) ∧ A2 = A ∧ h2 = wm (S_X12_canRead g u x y) r) (vNoX) 0 0 := by
  refine v_of hG (by decide +kernel) (Nat.le_of_ble_eq_true rfl) (lv := [(0, .ref (A (40, 0))), (1, .int (u)), (2, .int (x)), (3, .int (y))]) rfl (fun X C hnx => ?_)
  have C : vC G X cX12_canRead 4 RX12 (some .boolean) "canRead" 3 0 0 := C
  refine v_aload_n (pc := 0) C dX12_canRead_0 0 rfl rfl ?_
  refine v_aload_n (pc := 1) C dX12_canRead_1 0 rfl rfl ?_
  refine v_iload_n (pc := 2) C dX12_canRead_2 1 rfl rfl ?_
  refine v_callV (pc := 3) C (40, 0) ck_40 rfl (c_X12_isUser hG (u) ) 1 wd_1539 wd_68 wd_1536 wd_1538 wd_36 (by decide +kernel) (by decide) (by decide) rfl ([.ref (A (40, 0))]) rfl (Nat.le_of_ble_eq_true rfl) (by decide) dX12_canRead_3 (fun _ _ _ q => q.elim) (fun v9 A9 h9 hR9 => ?_)
  obtain ⟨rfl, hA9, rfl⟩ := hR9
  obtain rfl := hA9.symm
  refine v_st (k2 := 0) (n2 := 0) (st2 := [.int ((V_X12_isUser g (u))), .ref (A (40, 0))]) rfl rfl rfl ?_
  have b_1 := ok_isUser (g := g) (x := u) hu0
  refine v_iload_n (pc := 6) C dX12_canRead_6 2 rfl rfl ?_
  refine v_iload_n (pc := 7) C dX12_canRead_7 3 rfl rfl ?_
  refine v_callV (pc := 8) C (40, 0) ck_40 rfl (c_X12_isNotThere hG ((V_X12_isUser g (u))) (x) (y) hu0 hu hg0 hg hf0 hf) 3 wd_1640 wd_68 wd_1637 wd_1639 wd_50 (by decide +kernel) (by decide) (by decide) rfl ([]) rfl (Nat.le_of_ble_eq_true rfl) (by decide) dX12_canRead_8 (fun _ _ _ q => q.elim) (fun v9 A9 h9 hR9 => ?_)
  obtain ⟨rfl, hA9, rfl⟩ := hR9
  obtain rfl := hA9.symm
  refine v_st (k2 := 0) (n2 := 0) (st2 := [.int ((V_X12_isNotThere g ((V_X12_isUser g (u))) (x) (y)))]) rfl rfl rfl ?_
  have b_2 := ok_notThere (g := g) (zz := (V_X12_isUser g (u))) (x := x) (y := y) hf0
  refine v_if_ne (pc := 11) (tgt := 28) C dX12_canRead_11 (by decide) (fun c_3 => ?_) (fun c_3 => ?_)
  · skip
    refine v_iconst (v := 0) (pc := 28) C dX12_canRead_28 rfl ?_
    exact v_zret (pc := 29) C rfl (by decide) (by decide) dX12_canRead_29 ⟨(congrArg (fun q => some (Value.int q)) (by show _ = _; rw [V_X12_canRead, if_neg c_3])), rfl, (congrArg (fun q => wm q r) (by show _ = _; rw [S_X12_canRead]))⟩
  · skip
    refine v_aload_n (pc := 14) C dX12_canRead_14 0 rfl rfl ?_
    refine v_iload_n (pc := 15) C dX12_canRead_15 1 rfl rfl ?_
    refine v_iload_n (pc := 16) C dX12_canRead_16 2 rfl rfl ?_
    refine v_iload_n (pc := 17) C dX12_canRead_17 3 rfl rfl ?_
    refine v_callV (pc := 18) C (40, 0) ck_40 rfl (c_X12_reads hG (u) (x) (y) (by rw [show (S_X12_isNotThere g ((V_X12_isUser g (u))) (x) (y)) 2 0 0 = g 2 0 0 from F_X12_isNotThere (by decide)]; exact hu0) (by rw [show (S_X12_isNotThere g ((V_X12_isUser g (u))) (x) (y)) 2 0 0 = g 2 0 0 from F_X12_isNotThere (by decide)]; exact hu) (by rw [show (S_X12_isNotThere g ((V_X12_isUser g (u))) (x) (y)) 3 0 0 = g 3 0 0 from F_X12_isNotThere (by decide)]; exact hg0) (by rw [show (S_X12_isNotThere g ((V_X12_isUser g (u))) (x) (y)) 3 0 0 = g 3 0 0 from F_X12_isNotThere (by decide)]; exact hg) (by rw [show (S_X12_isNotThere g ((V_X12_isUser g (u))) (x) (y)) 4 0 0 = g 4 0 0 from F_X12_isNotThere (by decide)]; exact hf0) (by rw [show (S_X12_isNotThere g ((V_X12_isUser g (u))) (x) (y)) 4 0 0 = g 4 0 0 from F_X12_isNotThere (by decide)]; exact hf) (by (try simp only [Int32.le_iff_toInt_le, Int32.lt_iff_toInt_lt, ← Int32.toInt_inj, Int32.reduceToInt] at c_3 b_1 b_2 hu hg hf ⊢); omega) (by (try simp only [Int32.le_iff_toInt_le, Int32.lt_iff_toInt_lt, ← Int32.toInt_inj, Int32.reduceToInt] at c_3 b_1 b_2 hu hg hf ⊢); omega) (by (try simp only [Int32.le_iff_toInt_le, Int32.lt_iff_toInt_lt, ← Int32.toInt_inj, Int32.reduceToInt] at c_3 b_1 b_2 hu hg hf ⊢); omega) (by (try simp only [Int32.le_iff_toInt_le, Int32.lt_iff_toInt_lt, ← Int32.toInt_inj, Int32.reduceToInt] at c_3 b_1 b_2 hu hg hf ⊢); omega) (by (try simp only [Int32.le_iff_toInt_le, Int32.lt_iff_toInt_lt, ← Int32.toInt_inj, Int32.reduceToInt] at c_3 b_1 b_2 hu hg hf ⊢); omega) (by (try simp only [Int32.le_iff_toInt_le, Int32.lt_iff_toInt_lt, ← Int32.toInt_inj, Int32.reduceToInt] at c_3 b_1 b_2 hu hg hf ⊢); omega) (vM1_k (fun _ _ => F_X12_isNotThere (by decide)) h1) (vM2_k (fun _ _ => F_X12_isNotThere (by decide)) (fun _ _ => F_X12_isNotThere (by decide)) h2) (vM3_k (fun _ _ => F_X12_isNotThere (by decide)) (fun _ _ => F_X12_isNotThere (by decide)) h3)) 3 wd_1644 wd_68 wd_1641 wd_1643 wd_51 (by decide +kernel) (by decide) (by decide) rfl ([]) rfl (Nat.le_of_ble_eq_true rfl) (by decide) dX12_canRead_18 (fun _ _ _ q => q.elim) (fun v9 A9 h9 hR9 => ?_)
    obtain ⟨rfl, hA9, rfl⟩ := hR9
    obtain rfl := hA9.symm
    refine v_st (k2 := 0) (n2 := 0) (st2 := [.int ((V_X12_reads (S_X12_isNotThere g ((V_X12_isUser g (u))) (x) (y)) (u) (x) (y)))]) rfl rfl rfl ?_
    refine v_if_eq (pc := 21) (tgt := 28) C dX12_canRead_21 (by decide) (fun c_4 => ?_) (fun c_4 => ?_)
    · skip
      refine v_iconst (v := 0) (pc := 28) C dX12_canRead_28 rfl ?_
      exact v_zret (pc := 29) C rfl (by decide) (by decide) dX12_canRead_29 ⟨(congrArg (fun q => some (Value.int q)) (by show _ = _; rw [V_X12_canRead, if_pos c_3, if_pos c_4])), rfl, (congrArg (fun q => wm q r) (by show _ = _; rw [S_X12_canRead]))⟩
    · skip
      refine v_iconst (v := 1) (pc := 24) C dX12_canRead_24 rfl ?_
      refine v_goto (tgt := 29) (pc := 25) C dX12_canRead_25 (by decide) ?_
      exact v_zret (pc := 29) C rfl (by decide) (by decide) dX12_canRead_29 ⟨(congrArg (fun q => some (Value.int q)) (by show _ = _; rw [V_X12_canRead, if_pos c_3, if_neg c_4])), rfl, (congrArg (fun q => wm q r) (by show _ = _; rw [S_X12_canRead]))⟩
def V_X12_canReadByGrants (g : vS) (u : Int32) (x : Int32) (y : Int32) : Int32 := (V_X12_canRead g (u) (x) (y))
theorem B_X12_canReadByGrants {g : vS} {u : Int32} {x : Int32} {y : Int32} : V_X12_canReadByGrants g u x y = 0 ∨ V_X12_canReadByGrants g u x y = 1 := by
  unfold V_X12_canReadByGrants
  (repeat' split) <;> first | exact Or.inl rfl | exact Or.inr rfl | exact B_X12_canRead
def S_X12_canReadByGrants (g : vS) (u : Int32) (x : Int32) (y : Int32) : vS := (S_X12_canRead g (u) (x) (y))
theorem F_X12_canReadByGrants {g : vS} {u : Int32} {x : Int32} {y : Int32} {c i j : Nat} (h1 : c ≠ 1) : S_X12_canReadByGrants g u x y c i j = g c i j := by
  unfold S_X12_canReadByGrants
  (repeat' split) <;> first | rfl | ((simp only [s3_k h1, F_X12_canRead h1]) <;> first | done | rfl)
set_option maxHeartbeats 4000000 in
set_option maxRecDepth 100000 in
theorem c_X12_canReadByGrants {G : vG} (hG : G.1.stackTraces = false) {A : vN → Nat} {g : vS} {r : vH} (u : Int32) (x : Int32) (y : Int32) (hu0 : 0 ≤ (g 2 0 0).toInt) (hu : (g 2 0 0).toInt ≤ 6) (hg0 : 0 ≤ (g 3 0 0).toInt) (hg : (g 3 0 0).toInt ≤ 5) (hf0 : 0 ≤ (g 4 0 0).toInt) (hf : (g 4 0 0).toInt ≤ 20) (h1 : vM1 g) (h2 : vM2 g) (h3 : vM3 g) : vCt G yX12_canReadByGrants cX12_canReadByGrants 4 (some .boolean) 4 [.ref (A (40, 0)), .int (u), .int (x), .int (y)] A (wm g r) (fun v A2 h2 => v = some (.int (V_X12_canReadByGrants g u x y)) ∧ A2 = A ∧ h2 = wm (S_X12_canReadByGrants g u x y) r) (vNoX) 0 0 := by
  refine v_of hG (by decide +kernel) (Nat.le_of_ble_eq_true rfl) (lv := [(0, .ref (A (40, 0))), (1, .int (u)), (2, .int (x)), (3, .int (y))]) rfl (fun X C hnx => ?_)
  have C : vC G X cX12_canReadByGrants 4 RX12 (some .boolean) "canReadByGrants" 4 0 0 := C
  refine v_aload_n (pc := 0) C dX12_canReadByGrants_0 0 rfl rfl ?_
  refine v_iload_n (pc := 1) C dX12_canReadByGrants_1 1 rfl rfl ?_
  refine v_iload_n (pc := 2) C dX12_canReadByGrants_2 2 rfl rfl ?_
  refine v_iload_n (pc := 3) C dX12_canReadByGrants_3 3 rfl rfl ?_
  refine v_callV (pc := 4) C (40, 0) ck_40 rfl (c_X12_canRead hG (u) (x) (y) hu0 hu hg0 hg hf0 hf h1 h2 h3) 3 wd_1652 wd_68 wd_1657 wd_1650 wd_1651 (by decide +kernel) (by decide) (by decide) rfl ([]) rfl (Nat.le_of_ble_eq_true rfl) (by decide) dX12_canReadByGrants_4 (fun _ _ _ q => q.elim) (fun v9 A9 h9 hR9 => ?_)
  obtain ⟨rfl, hA9, rfl⟩ := hR9
  obtain rfl := hA9.symm
  refine v_st (k2 := 0) (n2 := 0) (st2 := [.int ((V_X12_canRead g (u) (x) (y)))]) rfl rfl rfl ?_
  exact v_zret (pc := 7) C (nar_b B_X12_canRead) (by decide) (by decide) dX12_canReadByGrants_7 ⟨(congrArg (fun q => some (Value.int q)) (by show _ = _; rw [V_X12_canReadByGrants])), rfl, (congrArg (fun q => wm q r) (by show _ = _; rw [S_X12_canReadByGrants]))⟩
def V_X12_tell (g : vS) (u : Int32) (x : Int32) (y : Int32) : Int32 := (if (V_X12_isUser g (u)) = 0 then 0 else (if (V_X12_isFile g (x)) = 0 then 0 else (if (V_X12_isBetween g (y) (0) (99)) = 0 then 0 else (if (g 52 ((g 55 (x).toNatClampNeg 0)).toNatClampNeg (u).toNatClampNeg) = 0 then 0 else (if (V_X12_isKept (S_X12_isWrong g (0)) ((V_X12_token (S_X12_isWrong g (0)) ((g 55 (x).toNatClampNeg 0)) ((g 50 ((g 55 (x).toNatClampNeg 0)).toNatClampNeg 0)) (y))) (x)) = 0 then (if (g 5 0 0) = 60 then 0 else ((g 5 0 0) + 1)) else (g 5 0 0))))))
def S_X12_tell (g : vS) (u : Int32) (x : Int32) (y : Int32) : vS := (if (V_X12_isUser g (u)) = 0 then (S_X12_isWrong g (1)) else (if (V_X12_isFile g (x)) = 0 then (S_X12_isWrong g (1)) else (if (V_X12_isBetween g (y) (0) (99)) = 0 then (S_X12_isWrong g (2)) else (if (g 52 ((g 55 (x).toNatClampNeg 0)).toNatClampNeg (u).toNatClampNeg) = 0 then (S_X12_isWrong g (3)) else (if (V_X12_isKept (S_X12_isWrong g (0)) ((V_X12_token (S_X12_isWrong g (0)) ((g 55 (x).toNatClampNeg 0)) ((g 50 ((g 55 (x).toNatClampNeg 0)).toNatClampNeg 0)) (y))) (x)) = 0 then (if (g 5 0 0) = 60 then (S_X12_isWrong (S_X12_isWrong g (0)) (4)) else (s3 (s3 (s3 (S_X12_isWrong (S_X12_isWrong g (0)) (0)) 69 ((g 5 0 0)).toNatClampNeg 0 ((V_X12_token (S_X12_isWrong g (0)) ((g 55 (x).toNatClampNeg 0)) ((g 50 ((g 55 (x).toNatClampNeg 0)).toNatClampNeg 0)) (y)))) 70 ((g 5 0 0)).toNatClampNeg 0 (x)) 5 0 0 (((g 5 0 0) + 1)))) else (S_X12_isWrong g (0)))))))
theorem F_X12_tell {g : vS} {u : Int32} {x : Int32} {y : Int32} {c i j : Nat} (h1 : c ≠ 1) (h5 : c ≠ 5) (h69 : c ≠ 69) (h70 : c ≠ 70) : S_X12_tell g u x y c i j = g c i j := by
  unfold S_X12_tell
  (repeat' split) <;> first | rfl | ((simp only [s3_k h1, s3_k h5, s3_k h69, s3_k h70, F_X12_isWrong h1]) <;> first | done | rfl)
set_option maxHeartbeats 4000000 in
set_option maxRecDepth 100000 in
theorem c_X12_tell {G : vG} (hG : G.1.stackTraces = false) {A : vN → Nat} {g : vS} {r : vH} (u : Int32) (x : Int32) (y : Int32) (hu0 : 0 ≤ (g 2 0 0).toInt) (hu : (g 2 0 0).toInt ≤ 6) (hg0 : 0 ≤ (g 3 0 0).toInt) (hg : (g 3 0 0).toInt ≤ 5) (hf0 : 0 ≤ (g 4 0 0).toInt) (hf : (g 4 0 0).toInt ≤ 20) (h1 : vM1 g) (h2 : vM2 g) (h3 : vM3 g) (hw0 : 0 ≤ (g 5 0 0).toInt) (hw : (g 5 0 0).toInt ≤ 60) : vCt G yX12_tell cX12_tell 5 (some .int) 3 [.ref (A (40, 0)), .int (u), .int (x), .int (y)] A (wm g r) (fun v A2 h2 => v = some (.int (V_X12_tell g u x y)) ∧ A2 = A ∧ h2 = wm (S_X12_tell g u x y) r) (vNoX) 0 0 := by
  refine v_of hG (by decide +kernel) (Nat.le_of_ble_eq_true rfl) (lv := [(0, .ref (A (40, 0))), (1, .int (u)), (2, .int (x)), (3, .int (y))]) rfl (fun X C hnx => ?_)
  have C : vC G X cX12_tell 5 RX12 (some .int) "tell" 3 0 0 := C
  refine v_aload_n (pc := 0) C dX12_tell_0 0 rfl rfl ?_
  refine v_aload_n (pc := 1) C dX12_tell_1 0 rfl rfl ?_
  refine v_iload_n (pc := 2) C dX12_tell_2 1 rfl rfl ?_
  refine v_callV (pc := 3) C (40, 0) ck_40 rfl (c_X12_isUser hG (u) ) 1 wd_1539 wd_68 wd_1536 wd_1538 wd_36 (by decide +kernel) (by decide) (by decide) rfl ([.ref (A (40, 0))]) rfl (Nat.le_of_ble_eq_true rfl) (by decide) dX12_tell_3 (fun _ _ _ q => q.elim) (fun v9 A9 h9 hR9 => ?_)
  obtain ⟨rfl, hA9, rfl⟩ := hR9
  obtain rfl := hA9.symm
  refine v_st (k2 := 0) (n2 := 0) (st2 := [.int ((V_X12_isUser g (u))), .ref (A (40, 0))]) rfl rfl rfl ?_
  have b_1 := ok_isUser (g := g) (x := u) hu0
  refine v_if_eq (pc := 6) (tgt := 17) C dX12_tell_6 (by decide) (fun c_2 => ?_) (fun c_2 => ?_)
  · skip
    refine v_iconst (v := 1) (pc := 17) C dX12_tell_17 rfl ?_
    refine v_goto (tgt := 56) (pc := 18) C dX12_tell_18 (by decide) ?_
    refine v_callV (pc := 56) C (40, 0) ck_40 rfl (c_X12_isWrong hG (1) ) 1 wd_1531 wd_68 wd_1528 wd_1530 wd_35 (by decide +kernel) (by decide) (by decide) rfl ([]) rfl (Nat.le_of_ble_eq_true rfl) (by decide) dX12_tell_56 (fun _ _ _ q => q.elim) (fun v9 A9 h9 hR9 => ?_)
    obtain ⟨rfl, hA9, rfl⟩ := hR9
    obtain rfl := hA9.symm
    refine v_st (k2 := 0) (n2 := 0) (st2 := [.int ((V_X12_isWrong g (1)))]) rfl rfl rfl ?_
    refine v_if_eq (pc := 59) (tgt := 64) C dX12_tell_59 (by decide) (fun c_3 => ?_) (fun c_3 => ?_)
    · skip
      exact absurd c_3 (fun q9 => ((show ¬ (1 : Int32) = 0 from by decide)) q9)
    · skip
      refine v_iconst (v := 0) (pc := 62) C dX12_tell_62 rfl ?_
      exact v_iret (pc := 63) C (by decide) (by decide) dX12_tell_63 ⟨(congrArg (fun q => some (Value.int q)) (by show _ = _; rw [V_X12_tell, if_pos c_2])), rfl, (congrArg (fun q => wm q r) (by show _ = _; rw [S_X12_tell, if_pos c_2]))⟩
  · skip
    refine v_aload_n (pc := 9) C dX12_tell_9 0 rfl rfl ?_
    refine v_iload_n (pc := 10) C dX12_tell_10 2 rfl rfl ?_
    refine v_callV (pc := 11) C (40, 0) ck_40 rfl (c_X12_isFile hG (x) ) 1 wd_1613 wd_68 wd_1610 wd_1612 wd_45 (by decide +kernel) (by decide) (by decide) rfl ([.ref (A (40, 0))]) rfl (Nat.le_of_ble_eq_true rfl) (by decide) dX12_tell_11 (fun _ _ _ q => q.elim) (fun v9 A9 h9 hR9 => ?_)
    obtain ⟨rfl, hA9, rfl⟩ := hR9
    obtain rfl := hA9.symm
    refine v_st (k2 := 0) (n2 := 0) (st2 := [.int ((V_X12_isFile g (x))), .ref (A (40, 0))]) rfl rfl rfl ?_
    have b_4 := ok_isFile (g := g) (x := x) hf0
    refine v_if_ne (pc := 14) (tgt := 21) C dX12_tell_14 (by decide) (fun c_5 => ?_) (fun c_5 => ?_)
    · skip
      refine v_iload_n (pc := 21) C dX12_tell_21 3 rfl rfl ?_
      refine v_iconst (v := 0) (pc := 22) C dX12_tell_22 rfl ?_
      refine v_bipush (v := 99) (pc := 23) C dX12_tell_23 (by decide) ?_
      refine v_callS (pc := 25) C (c_X12_isBetween hG (y) (0) (99) ) 3 wd_1527 wd_68 wd_1525 wd_1526 (by decide +kernel) (by decide) (by decide) rfl ([.ref (A (40, 0))]) rfl (Nat.le_of_ble_eq_true rfl) (by decide) dX12_tell_25 (fun _ _ _ q => q.elim) (fun v9 A9 h9 hR9 => ?_)
      obtain ⟨rfl, hA9, rfl⟩ := hR9
      obtain rfl := hA9.symm
      refine v_st (k2 := 0) (n2 := 0) (st2 := [.int ((V_X12_isBetween g (y) (0) (99))), .ref (A (40, 0))]) rfl rfl rfl ?_
      have b_6 := ok_btw (g := g) (x := y) (a := 0) (b := 99)
      refine v_if_ne (pc := 28) (tgt := 35) C dX12_tell_28 (by decide) (fun c_7 => ?_) (fun c_7 => ?_)
      · skip
        refine v_aload_n (pc := 35) C dX12_tell_35 0 rfl rfl ?_
        refine v_get (pc := 36) C (40, 0) (v := .ref (A (51, 0))) ck_40 rfl 11 (by decide) inX12 wd_1399 rfl rfl dX12_tell_36 ?_
        refine v_aload_n (pc := 39) C dX12_tell_39 0 rfl rfl ?_
        refine v_get (pc := 40) C (40, 0) (v := .ref (A (55, 0))) ck_40 rfl 15 (by decide) inX12 wd_1403 rfl rfl dX12_tell_40 ?_
        refine v_iload_n (pc := 43) C dX12_tell_43 2 rfl rfl ?_
        refine v_iald (pc := 44) C (55, 0) (v := (g 55 (x).toNatClampNeg 0)) ck_55 (by (try simp only [Int32.le_iff_toInt_le, Int32.lt_iff_toInt_lt, ← Int32.toInt_inj, vp_in_iff, Int32.reduceToInt] at c_2 c_5 c_7 b_1 b_4 b_6 hu hg hf hw0 hw ⊢) <;> omega) rfl dX12_tell_44 ?_
        have b_8 := h1 (x).toNatClampNeg
        refine v_aald (pc := 45) C (51, 0) ck_51 rfl rfl (by (try simp only [Int32.le_iff_toInt_le, Int32.lt_iff_toInt_lt, ← Int32.toInt_inj, vp_in_iff, Int32.reduceToInt] at c_2 c_5 c_7 b_1 b_4 b_6 b_8 hu hg hf hw0 hw ⊢) <;> omega) (52, ((g 55 (x).toNatClampNeg 0)).toNatClampNeg) rfl dX12_tell_45 ?_
        refine v_iload_n (pc := 46) C dX12_tell_46 1 rfl rfl ?_
        refine v_zald (pc := 47) C (52, ((g 55 (x).toNatClampNeg 0)).toNatClampNeg) (v := (g 52 ((g 55 (x).toNatClampNeg 0)).toNatClampNeg (u).toNatClampNeg)) (ck_52 (g := g) (tn_lt (by (try simp only [Int32.le_iff_toInt_le, Int32.lt_iff_toInt_lt, ← Int32.toInt_inj, Int32.reduceToInt] at c_2 c_5 c_7 b_1 b_4 b_6 b_8 hu hg hf hw0 hw ⊢); omega))) (by (try simp only [Int32.le_iff_toInt_le, Int32.lt_iff_toInt_lt, ← Int32.toInt_inj, vp_in_iff, Int32.reduceToInt] at c_2 c_5 c_7 b_1 b_4 b_6 b_8 hu hg hf hw0 hw ⊢) <;> omega) rfl dX12_tell_47 ?_
        refine v_if_ne (pc := 48) (tgt := 55) C dX12_tell_48 (by decide) (fun c_9 => ?_) (fun c_9 => ?_)
        · skip
          refine v_iconst (v := 0) (pc := 55) C dX12_tell_55 rfl ?_
          refine v_callV (pc := 56) C (40, 0) ck_40 rfl (c_X12_isWrong hG (0) ) 1 wd_1531 wd_68 wd_1528 wd_1530 wd_35 (by decide +kernel) (by decide) (by decide) rfl ([]) rfl (Nat.le_of_ble_eq_true rfl) (by decide) dX12_tell_56 (fun _ _ _ q => q.elim) (fun v9 A9 h9 hR9 => ?_)
          obtain ⟨rfl, hA9, rfl⟩ := hR9
          obtain rfl := hA9.symm
          refine v_st (k2 := 0) (n2 := 0) (st2 := [.int ((V_X12_isWrong g (0)))]) rfl rfl rfl ?_
          refine v_if_eq (pc := 59) (tgt := 64) C dX12_tell_59 (by decide) (fun c_10 => ?_) (fun c_10 => ?_)
          · skip
            refine v_aload_n (pc := 64) C dX12_tell_64 0 rfl rfl ?_
            refine v_get (pc := 65) C (40, 0) (v := .ref (A (55, 0))) ck_40 rfl 15 (by decide) inX12 wd_1403 rfl rfl dX12_tell_65 ?_
            refine v_iload_n (pc := 68) C dX12_tell_68 2 rfl rfl ?_
            refine v_iald (pc := 69) C (55, 0) (v := (g 55 (x).toNatClampNeg 0)) ck_55 (by (try simp only [Int32.le_iff_toInt_le, Int32.lt_iff_toInt_lt, ← Int32.toInt_inj, vp_in_iff, Int32.reduceToInt] at c_2 c_5 c_7 c_9 c_10 b_1 b_4 b_6 b_8 hu hg hf hw0 hw ⊢) <;> omega) (F_X12_isWrong (by decide)) dX12_tell_69 ?_
            have b_11 := h1 (x).toNatClampNeg
            refine v_aload_n (pc := 70) C dX12_tell_70 0 rfl rfl ?_
            refine v_get (pc := 71) C (40, 0) (v := .ref (A (50, 0))) ck_40 rfl 10 (by decide) inX12 wd_1398 rfl rfl dX12_tell_71 ?_
            refine v_aload_n (pc := 74) C dX12_tell_74 0 rfl rfl ?_
            refine v_get (pc := 75) C (40, 0) (v := .ref (A (55, 0))) ck_40 rfl 15 (by decide) inX12 wd_1403 rfl rfl dX12_tell_75 ?_
            refine v_iload_n (pc := 78) C dX12_tell_78 2 rfl rfl ?_
            refine v_iald (pc := 79) C (55, 0) (v := (g 55 (x).toNatClampNeg 0)) ck_55 (by (try simp only [Int32.le_iff_toInt_le, Int32.lt_iff_toInt_lt, ← Int32.toInt_inj, vp_in_iff, Int32.reduceToInt] at c_2 c_5 c_7 c_9 c_10 b_1 b_4 b_6 b_8 b_11 hu hg hf hw0 hw ⊢) <;> omega) (F_X12_isWrong (by decide)) dX12_tell_79 ?_
            have b_12 := h1 (x).toNatClampNeg
            refine v_iald (pc := 80) C (50, 0) (v := (g 50 ((g 55 (x).toNatClampNeg 0)).toNatClampNeg 0)) ck_50 (by (try simp only [Int32.le_iff_toInt_le, Int32.lt_iff_toInt_lt, ← Int32.toInt_inj, vp_in_iff, Int32.reduceToInt] at c_2 c_5 c_7 c_9 c_10 b_1 b_4 b_6 b_8 b_11 b_12 hu hg hf hw0 hw ⊢) <;> omega) (F_X12_isWrong (by decide)) dX12_tell_80 ?_
            refine v_iload_n (pc := 81) C dX12_tell_81 3 rfl rfl ?_
            refine v_callS (pc := 82) C (c_X12_token hG ((g 55 (x).toNatClampNeg 0)) ((g 50 ((g 55 (x).toNatClampNeg 0)).toNatClampNeg 0)) (y) ) 3 wd_1700 wd_68 wd_1698 wd_1699 (by decide +kernel) (by decide) (by decide) rfl ([]) rfl (Nat.le_of_ble_eq_true rfl) (by decide) dX12_tell_82 (fun _ _ _ q => q.elim) (fun v9 A9 h9 hR9 => ?_)
            obtain ⟨rfl, hA9, rfl⟩ := hR9
            obtain rfl := hA9.symm
            refine v_st (k2 := 0) (n2 := 0) (st2 := [.int ((V_X12_token (S_X12_isWrong g (0)) ((g 55 (x).toNatClampNeg 0)) ((g 50 ((g 55 (x).toNatClampNeg 0)).toNatClampNeg 0)) (y)))]) rfl rfl rfl ?_
            refine v_istore (lv2 := [(4, .int ((V_X12_token (S_X12_isWrong g (0)) ((g 55 (x).toNatClampNeg 0)) ((g 50 ((g 55 (x).toNatClampNeg 0)).toNatClampNeg 0)) (y)))), (0, .ref (A (40, 0))), (1, .int (u)), (2, .int (x)), (3, .int (y))]) (pc := 85) C dX12_tell_85 (by decide) rfl ?_
            refine v_aload_n (pc := 87) C dX12_tell_87 1 rfl rfl ?_
            refine v_iload (pc := 88) C dX12_tell_88 0 rfl ?_
            refine v_iload_n (pc := 90) C dX12_tell_90 3 rfl rfl ?_
            refine v_callV (pc := 91) C (40, 0) ck_40 rfl (c_X12_isKept hG ((V_X12_token (S_X12_isWrong g (0)) ((g 55 (x).toNatClampNeg 0)) ((g 50 ((g 55 (x).toNatClampNeg 0)).toNatClampNeg 0)) (y))) (x) (by rw [show (S_X12_isWrong g (0)) 2 0 0 = g 2 0 0 from F_X12_isWrong (by decide)]; exact hu0) (by rw [show (S_X12_isWrong g (0)) 2 0 0 = g 2 0 0 from F_X12_isWrong (by decide)]; exact hu) (by rw [show (S_X12_isWrong g (0)) 3 0 0 = g 3 0 0 from F_X12_isWrong (by decide)]; exact hg0) (by rw [show (S_X12_isWrong g (0)) 3 0 0 = g 3 0 0 from F_X12_isWrong (by decide)]; exact hg) (by rw [show (S_X12_isWrong g (0)) 4 0 0 = g 4 0 0 from F_X12_isWrong (by decide)]; exact hf0) (by rw [show (S_X12_isWrong g (0)) 4 0 0 = g 4 0 0 from F_X12_isWrong (by decide)]; exact hf) (by rw [show (S_X12_isWrong g (0)) 5 0 0 = g 5 0 0 from F_X12_isWrong (by decide)]; exact hw0) (by rw [show (S_X12_isWrong g (0)) 5 0 0 = g 5 0 0 from F_X12_isWrong (by decide)]; exact hw)) 2 wd_1704 wd_68 wd_1701 wd_1703 wd_52 (by decide +kernel) (by decide) (by decide) rfl ([]) rfl (Nat.le_of_ble_eq_true rfl) (by decide) dX12_tell_91 (fun _ _ _ q => q.elim) (fun v9 A9 h9 hR9 => ?_)
            obtain ⟨rfl, hA9, rfl⟩ := hR9
            obtain rfl := hA9.symm
            refine v_st (k2 := 0) (n2 := 0) (st2 := [.int ((V_X12_isKept (S_X12_isWrong g (0)) ((V_X12_token (S_X12_isWrong g (0)) ((g 55 (x).toNatClampNeg 0)) ((g 50 ((g 55 (x).toNatClampNeg 0)).toNatClampNeg 0)) (y))) (x)))]) rfl rfl rfl ?_
            refine v_if_eq (pc := 94) (tgt := 102) C dX12_tell_94 (by decide) (fun c_13 => ?_) (fun c_13 => ?_)
            · skip
              refine v_aload_n (pc := 102) C dX12_tell_102 1 rfl rfl ?_
              refine v_aload_n (pc := 103) C dX12_tell_103 1 rfl rfl ?_
              refine v_get (pc := 104) C (40, 0) (v := .int ((g 5 0 0))) ck_40 rfl 29 (by decide) inX12 wd_1417 rfl (congrArg Value.int (F_X12_isWrong (by decide))) dX12_tell_104 ?_
              refine v_bipush (v := 60) (pc := 107) C dX12_tell_107 (by decide) ?_
              refine v_icmp_ne (pc := 109) (tgt := 116) C dX12_tell_109 (by decide) (fun c_14 => ?_) (fun c_14 => ?_)
              · skip
                refine v_iconst (v := 0) (pc := 116) C dX12_tell_116 rfl ?_
                refine v_callV (pc := 117) C (40, 0) ck_40 rfl (c_X12_isWrong hG (0) ) 1 wd_1531 wd_68 wd_1528 wd_1530 wd_35 (by decide +kernel) (by decide) (by decide) rfl ([]) rfl (Nat.le_of_ble_eq_true rfl) (by decide) dX12_tell_117 (fun _ _ _ q => q.elim) (fun v9 A9 h9 hR9 => ?_)
                obtain ⟨rfl, hA9, rfl⟩ := hR9
                obtain rfl := hA9.symm
                refine v_st (k2 := 0) (n2 := 0) (st2 := [.int ((V_X12_isWrong (S_X12_isWrong g (0)) (0)))]) rfl rfl rfl ?_
                refine v_if_eq (pc := 120) (tgt := 125) C dX12_tell_120 (by decide) (fun c_15 => ?_) (fun c_15 => ?_)
                · skip
                  refine v_aload_n (pc := 125) C dX12_tell_125 1 rfl rfl ?_
                  refine v_get (pc := 126) C (40, 0) (v := .ref (A (69, 0))) ck_40 rfl 25 (by decide) inX12 wd_1413 rfl rfl dX12_tell_126 ?_
                  refine v_aload_n (pc := 129) C dX12_tell_129 1 rfl rfl ?_
                  refine v_get (pc := 130) C (40, 0) (v := .int ((g 5 0 0))) ck_40 rfl 29 (by decide) inX12 wd_1417 rfl (congrArg Value.int ((F_X12_isWrong (by decide)).trans (F_X12_isWrong (by decide)))) dX12_tell_130 ?_
                  refine v_iload (pc := 133) C dX12_tell_133 0 rfl ?_
                  refine v_iast (pc := 135) C (69, 0) (x := (V_X12_token (S_X12_isWrong g (0)) ((g 55 (x).toNatClampNeg 0)) ((g 50 ((g 55 (x).toNatClampNeg 0)).toNatClampNeg 0)) (y))) ck_69 (by (try simp only [Int32.le_iff_toInt_le, Int32.lt_iff_toInt_lt, ← Int32.toInt_inj, vp_in_iff, Int32.reduceToInt] at c_2 c_5 c_7 c_9 c_10 c_13 c_14 c_15 b_1 b_4 b_6 b_8 b_11 b_12 hu hg hf hw0 hw ⊢) <;> omega) dX12_tell_135 ?_
                  refine v_h (h2 := (wm (s3 (S_X12_isWrong (S_X12_isWrong g (0)) (0)) 69 ((g 5 0 0)).toNatClampNeg 0 ((V_X12_token (S_X12_isWrong g (0)) ((g 55 (x).toNatClampNeg 0)) ((g 50 ((g 55 (x).toNatClampNeg 0)).toNatClampNeg 0)) (y)))) r)) (u_69_a) ?_
                  refine v_aload_n (pc := 136) C dX12_tell_136 1 rfl rfl ?_
                  refine v_get (pc := 137) C (40, 0) (v := .ref (A (70, 0))) ck_40 rfl 26 (by decide) inX12 wd_1414 rfl rfl dX12_tell_137 ?_
                  refine v_aload_n (pc := 140) C dX12_tell_140 1 rfl rfl ?_
                  refine v_get (pc := 141) C (40, 0) (v := .int ((g 5 0 0))) ck_40 rfl 29 (by decide) inX12 wd_1417 rfl (congrArg Value.int ((s3_k (by decide)).trans ((F_X12_isWrong (by decide)).trans (F_X12_isWrong (by decide))))) dX12_tell_141 ?_
                  refine v_iload_n (pc := 144) C dX12_tell_144 3 rfl rfl ?_
                  refine v_iast (pc := 145) C (70, 0) (x := x) ck_70 (by (try simp only [Int32.le_iff_toInt_le, Int32.lt_iff_toInt_lt, ← Int32.toInt_inj, vp_in_iff, Int32.reduceToInt] at c_2 c_5 c_7 c_9 c_10 c_13 c_14 c_15 b_1 b_4 b_6 b_8 b_11 b_12 hu hg hf hw0 hw ⊢) <;> omega) dX12_tell_145 ?_
                  refine v_h (h2 := (wm (s3 (s3 (S_X12_isWrong (S_X12_isWrong g (0)) (0)) 69 ((g 5 0 0)).toNatClampNeg 0 ((V_X12_token (S_X12_isWrong g (0)) ((g 55 (x).toNatClampNeg 0)) ((g 50 ((g 55 (x).toNatClampNeg 0)).toNatClampNeg 0)) (y)))) 70 ((g 5 0 0)).toNatClampNeg 0 (x)) r)) (u_70_a) ?_
                  refine v_aload_n (pc := 146) C dX12_tell_146 1 rfl rfl ?_
                  refine v_dup (pc := 147) C dX12_tell_147 rfl ?_
                  refine v_get (pc := 148) C (40, 0) (v := .int ((g 5 0 0))) ck_40 rfl 29 (by decide) inX12 wd_1417 rfl (congrArg Value.int ((s3_k (by decide)).trans ((s3_k (by decide)).trans ((F_X12_isWrong (by decide)).trans (F_X12_isWrong (by decide)))))) dX12_tell_148 ?_
                  refine v_iconst (v := 1) (pc := 151) C dX12_tell_151 rfl ?_
                  refine v_iadd (pc := 152) C dX12_tell_152 ?_
                  refine v_put (pc := 153) C (40, 0) (v := .int (((g 5 0 0) + 1))) ck_40 rfl 29 (by decide) inX12 tyX12 tyX12_ok nmX12 wd_1417 rfl (.inl (Value.int (((g 5 0 0) + 1)))) rfl (ty := tyX12 29) (by decide +kernel) rfl rfl (Nat.le_of_ble_eq_true rfl) dX12_tell_153 ?_
                  refine v_h (h2 := (wm (s3 (s3 (s3 (S_X12_isWrong (S_X12_isWrong g (0)) (0)) 69 ((g 5 0 0)).toNatClampNeg 0 ((V_X12_token (S_X12_isWrong g (0)) ((g 55 (x).toNatClampNeg 0)) ((g 50 ((g 55 (x).toNatClampNeg 0)).toNatClampNeg 0)) (y)))) 70 ((g 5 0 0)).toNatClampNeg 0 (x)) 5 0 0 (((g 5 0 0) + 1))) r)) (u_40_29) ?_
                  refine v_aload_n (pc := 156) C dX12_tell_156 1 rfl rfl ?_
                  refine v_get (pc := 157) C (40, 0) (v := .int (((g 5 0 0) + 1))) ck_40 rfl 29 (by decide) inX12 wd_1417 rfl (congrArg Value.int (s3_s)) dX12_tell_157 ?_
                  exact v_iret (pc := 160) C (by decide) (by decide) dX12_tell_160 ⟨(congrArg (fun q => some (Value.int q)) (by show _ = _; rw [V_X12_tell, if_neg c_2, if_neg c_5, if_neg c_7, if_neg c_9, if_pos c_13, if_neg c_14])), rfl, (congrArg (fun q => wm q r) (by show _ = _; rw [S_X12_tell, if_neg c_2, if_neg c_5, if_neg c_7, if_neg c_9, if_pos c_13, if_neg c_14]))⟩
                · skip
                  exact absurd c_15 (fun q9 => q9 ((show (0 : Int32) = 0 from rfl)))
              · skip
                refine v_iconst (v := 4) (pc := 112) C dX12_tell_112 rfl ?_
                refine v_goto (tgt := 117) (pc := 113) C dX12_tell_113 (by decide) ?_
                refine v_callV (pc := 117) C (40, 0) ck_40 rfl (c_X12_isWrong hG (4) ) 1 wd_1531 wd_68 wd_1528 wd_1530 wd_35 (by decide +kernel) (by decide) (by decide) rfl ([]) rfl (Nat.le_of_ble_eq_true rfl) (by decide) dX12_tell_117 (fun _ _ _ q => q.elim) (fun v9 A9 h9 hR9 => ?_)
                obtain ⟨rfl, hA9, rfl⟩ := hR9
                obtain rfl := hA9.symm
                refine v_st (k2 := 0) (n2 := 0) (st2 := [.int ((V_X12_isWrong (S_X12_isWrong g (0)) (4)))]) rfl rfl rfl ?_
                refine v_if_eq (pc := 120) (tgt := 125) C dX12_tell_120 (by decide) (fun c_16 => ?_) (fun c_16 => ?_)
                · skip
                  exact absurd c_16 (fun q9 => ((show ¬ (1 : Int32) = 0 from by decide)) q9)
                · skip
                  refine v_iconst (v := 0) (pc := 123) C dX12_tell_123 rfl ?_
                  exact v_iret (pc := 124) C (by decide) (by decide) dX12_tell_124 ⟨(congrArg (fun q => some (Value.int q)) (by show _ = _; rw [V_X12_tell, if_neg c_2, if_neg c_5, if_neg c_7, if_neg c_9, if_pos c_13, if_pos c_14])), rfl, (congrArg (fun q => wm q r) (by show _ = _; rw [S_X12_tell, if_neg c_2, if_neg c_5, if_neg c_7, if_neg c_9, if_pos c_13, if_pos c_14]))⟩
            · skip
              refine v_aload_n (pc := 97) C dX12_tell_97 1 rfl rfl ?_
              refine v_get (pc := 98) C (40, 0) (v := .int ((g 5 0 0))) ck_40 rfl 29 (by decide) inX12 wd_1417 rfl (congrArg Value.int (F_X12_isWrong (by decide))) dX12_tell_98 ?_
              exact v_iret (pc := 101) C (by decide) (by decide) dX12_tell_101 ⟨(congrArg (fun q => some (Value.int q)) (by show _ = _; rw [V_X12_tell, if_neg c_2, if_neg c_5, if_neg c_7, if_neg c_9, if_neg c_13])), rfl, (congrArg (fun q => wm q r) (by show _ = _; rw [S_X12_tell, if_neg c_2, if_neg c_5, if_neg c_7, if_neg c_9, if_neg c_13]))⟩
          · skip
            exact absurd c_10 (fun q9 => q9 ((show (0 : Int32) = 0 from rfl)))
        · skip
          refine v_iconst (v := 3) (pc := 51) C dX12_tell_51 rfl ?_
          refine v_goto (tgt := 56) (pc := 52) C dX12_tell_52 (by decide) ?_
          refine v_callV (pc := 56) C (40, 0) ck_40 rfl (c_X12_isWrong hG (3) ) 1 wd_1531 wd_68 wd_1528 wd_1530 wd_35 (by decide +kernel) (by decide) (by decide) rfl ([]) rfl (Nat.le_of_ble_eq_true rfl) (by decide) dX12_tell_56 (fun _ _ _ q => q.elim) (fun v9 A9 h9 hR9 => ?_)
          obtain ⟨rfl, hA9, rfl⟩ := hR9
          obtain rfl := hA9.symm
          refine v_st (k2 := 0) (n2 := 0) (st2 := [.int ((V_X12_isWrong g (3)))]) rfl rfl rfl ?_
          refine v_if_eq (pc := 59) (tgt := 64) C dX12_tell_59 (by decide) (fun c_17 => ?_) (fun c_17 => ?_)
          · skip
            exact absurd c_17 (fun q9 => ((show ¬ (1 : Int32) = 0 from by decide)) q9)
          · skip
            refine v_iconst (v := 0) (pc := 62) C dX12_tell_62 rfl ?_
            exact v_iret (pc := 63) C (by decide) (by decide) dX12_tell_63 ⟨(congrArg (fun q => some (Value.int q)) (by show _ = _; rw [V_X12_tell, if_neg c_2, if_neg c_5, if_neg c_7, if_pos c_9])), rfl, (congrArg (fun q => wm q r) (by show _ = _; rw [S_X12_tell, if_neg c_2, if_neg c_5, if_neg c_7, if_pos c_9]))⟩
      · skip
        refine v_iconst (v := 2) (pc := 31) C dX12_tell_31 rfl ?_
        refine v_goto (tgt := 56) (pc := 32) C dX12_tell_32 (by decide) ?_
        refine v_callV (pc := 56) C (40, 0) ck_40 rfl (c_X12_isWrong hG (2) ) 1 wd_1531 wd_68 wd_1528 wd_1530 wd_35 (by decide +kernel) (by decide) (by decide) rfl ([]) rfl (Nat.le_of_ble_eq_true rfl) (by decide) dX12_tell_56 (fun _ _ _ q => q.elim) (fun v9 A9 h9 hR9 => ?_)
        obtain ⟨rfl, hA9, rfl⟩ := hR9
        obtain rfl := hA9.symm
        refine v_st (k2 := 0) (n2 := 0) (st2 := [.int ((V_X12_isWrong g (2)))]) rfl rfl rfl ?_
        refine v_if_eq (pc := 59) (tgt := 64) C dX12_tell_59 (by decide) (fun c_18 => ?_) (fun c_18 => ?_)
        · skip
          exact absurd c_18 (fun q9 => ((show ¬ (1 : Int32) = 0 from by decide)) q9)
        · skip
          refine v_iconst (v := 0) (pc := 62) C dX12_tell_62 rfl ?_
          exact v_iret (pc := 63) C (by decide) (by decide) dX12_tell_63 ⟨(congrArg (fun q => some (Value.int q)) (by show _ = _; rw [V_X12_tell, if_neg c_2, if_neg c_5, if_pos c_7])), rfl, (congrArg (fun q => wm q r) (by show _ = _; rw [S_X12_tell, if_neg c_2, if_neg c_5, if_pos c_7]))⟩
    · skip
      refine v_iconst (v := 1) (pc := 17) C dX12_tell_17 rfl ?_
      refine v_goto (tgt := 56) (pc := 18) C dX12_tell_18 (by decide) ?_
      refine v_callV (pc := 56) C (40, 0) ck_40 rfl (c_X12_isWrong hG (1) ) 1 wd_1531 wd_68 wd_1528 wd_1530 wd_35 (by decide +kernel) (by decide) (by decide) rfl ([]) rfl (Nat.le_of_ble_eq_true rfl) (by decide) dX12_tell_56 (fun _ _ _ q => q.elim) (fun v9 A9 h9 hR9 => ?_)
      obtain ⟨rfl, hA9, rfl⟩ := hR9
      obtain rfl := hA9.symm
      refine v_st (k2 := 0) (n2 := 0) (st2 := [.int ((V_X12_isWrong g (1)))]) rfl rfl rfl ?_
      refine v_if_eq (pc := 59) (tgt := 64) C dX12_tell_59 (by decide) (fun c_19 => ?_) (fun c_19 => ?_)
      · skip
        exact absurd c_19 (fun q9 => ((show ¬ (1 : Int32) = 0 from by decide)) q9)
      · skip
        refine v_iconst (v := 0) (pc := 62) C dX12_tell_62 rfl ?_
        exact v_iret (pc := 63) C (by decide) (by decide) dX12_tell_63 ⟨(congrArg (fun q => some (Value.int q)) (by show _ = _; rw [V_X12_tell, if_neg c_2, if_pos c_5])), rfl, (congrArg (fun q => wm q r) (by show _ = _; rw [S_X12_tell, if_neg c_2, if_pos c_5]))⟩
def V_X12_throwAway (g : vS) (u : Int32) (x : Int32) : Int32 := (if (V_X12_isUser g (u)) = 0 then 0 else (if (V_X12_isFile g (x)) = 0 then 0 else (if (g 48 ((g 55 (x).toNatClampNeg 0)).toNatClampNeg 0) = u then (if (g 68 (x).toNatClampNeg 0) = 0 then (if (V_X12_isFull g) = 0 then (V_X12_partsOf (S_X12_adds (s3 (S_X12_isWrong g (0)) 68 (x).toNatClampNeg 0 (1)) (pMix (300) (x))) (x)) else 0) else 0) else 0)))
def S_X12_throwAway (g : vS) (u : Int32) (x : Int32) : vS := (if (V_X12_isUser g (u)) = 0 then (S_X12_isWrong g (1)) else (if (V_X12_isFile g (x)) = 0 then (S_X12_isWrong g (1)) else (if (g 48 ((g 55 (x).toNatClampNeg 0)).toNatClampNeg 0) = u then (if (g 68 (x).toNatClampNeg 0) = 0 then (if (V_X12_isFull g) = 0 then (S_X12_adds (s3 (S_X12_isWrong g (0)) 68 (x).toNatClampNeg 0 (1)) (pMix (300) (x))) else (S_X12_isWrong g (3))) else (S_X12_isWrong g (3))) else (S_X12_isWrong g (2)))))
theorem F_X12_throwAway {g : vS} {u : Int32} {x : Int32} {c i j : Nat} (h1 : c ≠ 1) (h11 : c ≠ 11) (h68 : c ≠ 68) (h73 : c ≠ 73) : S_X12_throwAway g u x c i j = g c i j := by
  unfold S_X12_throwAway
  (repeat' split) <;> first | rfl | ((simp only [s3_k h1, s3_k h11, s3_k h68, s3_k h73, F_X12_adds h11 h73, F_X12_isWrong h1]) <;> first | done | rfl)
set_option maxHeartbeats 4000000 in
set_option maxRecDepth 100000 in
theorem c_X12_throwAway {G : vG} (hG : G.1.stackTraces = false) {A : vN → Nat} {g : vS} {r : vH} (u : Int32) (x : Int32) (hu0 : 0 ≤ (g 2 0 0).toInt) (hu : (g 2 0 0).toInt ≤ 6) (hg0 : 0 ≤ (g 3 0 0).toInt) (hg : (g 3 0 0).toInt ≤ 5) (hf0 : 0 ≤ (g 4 0 0).toInt) (hf : (g 4 0 0).toInt ≤ 20) (h1 : vM1 g) (h2 : vM2 g) (h3 : vM3 g) (hl0 : 0 ≤ (g 11 0 0).toInt) (hl : (g 11 0 0).toInt ≤ 300) : vCt G yX12_throwAway cX12_throwAway 3 (some .int) 2 [.ref (A (40, 0)), .int (u), .int (x)] A (wm g r) (fun v A2 h2 => v = some (.int (V_X12_throwAway g u x)) ∧ A2 = A ∧ h2 = wm (S_X12_throwAway g u x) r) (vNoX) 0 0 := by
  refine v_of hG (by decide +kernel) (Nat.le_of_ble_eq_true rfl) (lv := [(0, .ref (A (40, 0))), (1, .int (u)), (2, .int (x))]) rfl (fun X C hnx => ?_)
  have C : vC G X cX12_throwAway 3 RX12 (some .int) "throwAway" 2 0 0 := C
  refine v_aload_n (pc := 0) C dX12_throwAway_0 0 rfl rfl ?_
  refine v_aload_n (pc := 1) C dX12_throwAway_1 0 rfl rfl ?_
  refine v_iload_n (pc := 2) C dX12_throwAway_2 1 rfl rfl ?_
  refine v_callV (pc := 3) C (40, 0) ck_40 rfl (c_X12_isUser hG (u) ) 1 wd_1539 wd_68 wd_1536 wd_1538 wd_36 (by decide +kernel) (by decide) (by decide) rfl ([.ref (A (40, 0))]) rfl (Nat.le_of_ble_eq_true rfl) (by decide) dX12_throwAway_3 (fun _ _ _ q => q.elim) (fun v9 A9 h9 hR9 => ?_)
  obtain ⟨rfl, hA9, rfl⟩ := hR9
  obtain rfl := hA9.symm
  refine v_st (k2 := 0) (n2 := 0) (st2 := [.int ((V_X12_isUser g (u))), .ref (A (40, 0))]) rfl rfl rfl ?_
  have b_1 := ok_isUser (g := g) (x := u) hu0
  refine v_if_eq (pc := 6) (tgt := 17) C dX12_throwAway_6 (by decide) (fun c_2 => ?_) (fun c_2 => ?_)
  · skip
    refine v_iconst (v := 1) (pc := 17) C dX12_throwAway_17 rfl ?_
    refine v_goto (tgt := 61) (pc := 18) C dX12_throwAway_18 (by decide) ?_
    refine v_callV (pc := 61) C (40, 0) ck_40 rfl (c_X12_isWrong hG (1) ) 1 wd_1531 wd_68 wd_1528 wd_1530 wd_35 (by decide +kernel) (by decide) (by decide) rfl ([]) rfl (Nat.le_of_ble_eq_true rfl) (by decide) dX12_throwAway_61 (fun _ _ _ q => q.elim) (fun v9 A9 h9 hR9 => ?_)
    obtain ⟨rfl, hA9, rfl⟩ := hR9
    obtain rfl := hA9.symm
    refine v_st (k2 := 0) (n2 := 0) (st2 := [.int ((V_X12_isWrong g (1)))]) rfl rfl rfl ?_
    refine v_if_eq (pc := 64) (tgt := 69) C dX12_throwAway_64 (by decide) (fun c_3 => ?_) (fun c_3 => ?_)
    · skip
      exact absurd c_3 (fun q9 => ((show ¬ (1 : Int32) = 0 from by decide)) q9)
    · skip
      refine v_iconst (v := 0) (pc := 67) C dX12_throwAway_67 rfl ?_
      exact v_iret (pc := 68) C (by decide) (by decide) dX12_throwAway_68 ⟨(congrArg (fun q => some (Value.int q)) (by show _ = _; rw [V_X12_throwAway, if_pos c_2])), rfl, (congrArg (fun q => wm q r) (by show _ = _; rw [S_X12_throwAway, if_pos c_2]))⟩
  · skip
    refine v_aload_n (pc := 9) C dX12_throwAway_9 0 rfl rfl ?_
    refine v_iload_n (pc := 10) C dX12_throwAway_10 2 rfl rfl ?_
    refine v_callV (pc := 11) C (40, 0) ck_40 rfl (c_X12_isFile hG (x) ) 1 wd_1613 wd_68 wd_1610 wd_1612 wd_45 (by decide +kernel) (by decide) (by decide) rfl ([.ref (A (40, 0))]) rfl (Nat.le_of_ble_eq_true rfl) (by decide) dX12_throwAway_11 (fun _ _ _ q => q.elim) (fun v9 A9 h9 hR9 => ?_)
    obtain ⟨rfl, hA9, rfl⟩ := hR9
    obtain rfl := hA9.symm
    refine v_st (k2 := 0) (n2 := 0) (st2 := [.int ((V_X12_isFile g (x))), .ref (A (40, 0))]) rfl rfl rfl ?_
    have b_4 := ok_isFile (g := g) (x := x) hf0
    refine v_if_ne (pc := 14) (tgt := 21) C dX12_throwAway_14 (by decide) (fun c_5 => ?_) (fun c_5 => ?_)
    · skip
      refine v_aload_n (pc := 21) C dX12_throwAway_21 0 rfl rfl ?_
      refine v_get (pc := 22) C (40, 0) (v := .ref (A (48, 0))) ck_40 rfl 8 (by decide) inX12 wd_1396 rfl rfl dX12_throwAway_22 ?_
      refine v_aload_n (pc := 25) C dX12_throwAway_25 0 rfl rfl ?_
      refine v_get (pc := 26) C (40, 0) (v := .ref (A (55, 0))) ck_40 rfl 15 (by decide) inX12 wd_1403 rfl rfl dX12_throwAway_26 ?_
      refine v_iload_n (pc := 29) C dX12_throwAway_29 2 rfl rfl ?_
      refine v_iald (pc := 30) C (55, 0) (v := (g 55 (x).toNatClampNeg 0)) ck_55 (by (try simp only [Int32.le_iff_toInt_le, Int32.lt_iff_toInt_lt, ← Int32.toInt_inj, vp_in_iff, Int32.reduceToInt] at c_2 c_5 b_1 b_4 hu hg hf hl0 hl ⊢) <;> omega) rfl dX12_throwAway_30 ?_
      have b_6 := h1 (x).toNatClampNeg
      refine v_iald (pc := 31) C (48, 0) (v := (g 48 ((g 55 (x).toNatClampNeg 0)).toNatClampNeg 0)) ck_48 (by (try simp only [Int32.le_iff_toInt_le, Int32.lt_iff_toInt_lt, ← Int32.toInt_inj, vp_in_iff, Int32.reduceToInt] at c_2 c_5 b_1 b_4 b_6 hu hg hf hl0 hl ⊢) <;> omega) rfl dX12_throwAway_31 ?_
      refine v_iload_n (pc := 32) C dX12_throwAway_32 1 rfl rfl ?_
      refine v_icmp_eq (pc := 33) (tgt := 40) C dX12_throwAway_33 (by decide) (fun c_7 => ?_) (fun c_7 => ?_)
      · skip
        refine v_aload_n (pc := 40) C dX12_throwAway_40 0 rfl rfl ?_
        refine v_get (pc := 41) C (40, 0) (v := .ref (A (68, 0))) ck_40 rfl 23 (by decide) inX12 wd_1411 rfl rfl dX12_throwAway_41 ?_
        refine v_iload_n (pc := 44) C dX12_throwAway_44 2 rfl rfl ?_
        refine v_zald (pc := 45) C (68, 0) (v := (g 68 (x).toNatClampNeg 0)) ck_68 (by (try simp only [Int32.le_iff_toInt_le, Int32.lt_iff_toInt_lt, ← Int32.toInt_inj, vp_in_iff, Int32.reduceToInt] at c_2 c_5 c_7 b_1 b_4 b_6 hu hg hf hl0 hl ⊢) <;> omega) rfl dX12_throwAway_45 ?_
        refine v_if_ne (pc := 46) (tgt := 56) C dX12_throwAway_46 (by decide) (fun c_8 => ?_) (fun c_8 => ?_)
        · skip
          refine v_iconst (v := 3) (pc := 56) C dX12_throwAway_56 rfl ?_
          refine v_goto (tgt := 61) (pc := 57) C dX12_throwAway_57 (by decide) ?_
          refine v_callV (pc := 61) C (40, 0) ck_40 rfl (c_X12_isWrong hG (3) ) 1 wd_1531 wd_68 wd_1528 wd_1530 wd_35 (by decide +kernel) (by decide) (by decide) rfl ([]) rfl (Nat.le_of_ble_eq_true rfl) (by decide) dX12_throwAway_61 (fun _ _ _ q => q.elim) (fun v9 A9 h9 hR9 => ?_)
          obtain ⟨rfl, hA9, rfl⟩ := hR9
          obtain rfl := hA9.symm
          refine v_st (k2 := 0) (n2 := 0) (st2 := [.int ((V_X12_isWrong g (3)))]) rfl rfl rfl ?_
          refine v_if_eq (pc := 64) (tgt := 69) C dX12_throwAway_64 (by decide) (fun c_9 => ?_) (fun c_9 => ?_)
          · skip
            exact absurd c_9 (fun q9 => ((show ¬ (1 : Int32) = 0 from by decide)) q9)
          · skip
            refine v_iconst (v := 0) (pc := 67) C dX12_throwAway_67 rfl ?_
            exact v_iret (pc := 68) C (by decide) (by decide) dX12_throwAway_68 ⟨(congrArg (fun q => some (Value.int q)) (by show _ = _; rw [V_X12_throwAway, if_neg c_2, if_neg c_5, if_pos c_7, if_neg c_8])), rfl, (congrArg (fun q => wm q r) (by show _ = _; rw [S_X12_throwAway, if_neg c_2, if_neg c_5, if_pos c_7, if_neg c_8]))⟩
        · skip
          refine v_aload_n (pc := 49) C dX12_throwAway_49 0 rfl rfl ?_
          refine v_callV (pc := 50) C (40, 0) ck_40 rfl (c_X12_isFull hG  ) 0 wd_1551 wd_68 wd_1548 wd_1550 wd_38 (by decide +kernel) (by decide) (by decide) rfl ([.ref (A (40, 0))]) rfl (Nat.le_of_ble_eq_true rfl) (by decide) dX12_throwAway_50 (fun _ _ _ q => q.elim) (fun v9 A9 h9 hR9 => ?_)
          obtain ⟨rfl, hA9, rfl⟩ := hR9
          obtain rfl := hA9.symm
          refine v_st (k2 := 0) (n2 := 0) (st2 := [.int ((V_X12_isFull g)), .ref (A (40, 0))]) rfl rfl rfl ?_
          have b_10 := ok_isFull (g := g)
          refine v_if_eq (pc := 53) (tgt := 60) C dX12_throwAway_53 (by decide) (fun c_11 => ?_) (fun c_11 => ?_)
          · skip
            refine v_iconst (v := 0) (pc := 60) C dX12_throwAway_60 rfl ?_
            refine v_callV (pc := 61) C (40, 0) ck_40 rfl (c_X12_isWrong hG (0) ) 1 wd_1531 wd_68 wd_1528 wd_1530 wd_35 (by decide +kernel) (by decide) (by decide) rfl ([]) rfl (Nat.le_of_ble_eq_true rfl) (by decide) dX12_throwAway_61 (fun _ _ _ q => q.elim) (fun v9 A9 h9 hR9 => ?_)
            obtain ⟨rfl, hA9, rfl⟩ := hR9
            obtain rfl := hA9.symm
            refine v_st (k2 := 0) (n2 := 0) (st2 := [.int ((V_X12_isWrong g (0)))]) rfl rfl rfl ?_
            refine v_if_eq (pc := 64) (tgt := 69) C dX12_throwAway_64 (by decide) (fun c_12 => ?_) (fun c_12 => ?_)
            · skip
              refine v_aload_n (pc := 69) C dX12_throwAway_69 0 rfl rfl ?_
              refine v_get (pc := 70) C (40, 0) (v := .ref (A (68, 0))) ck_40 rfl 23 (by decide) inX12 wd_1411 rfl rfl dX12_throwAway_70 ?_
              refine v_iload_n (pc := 73) C dX12_throwAway_73 2 rfl rfl ?_
              refine v_iconst (v := 1) (pc := 74) C dX12_throwAway_74 rfl ?_
              refine v_zast (pc := 75) C (68, 0) (x := 1) ck_68 (by (try simp only [Int32.le_iff_toInt_le, Int32.lt_iff_toInt_lt, ← Int32.toInt_inj, vp_in_iff, Int32.reduceToInt] at c_2 c_5 c_7 c_8 c_11 c_12 b_1 b_4 b_6 b_10 hu hg hf hl0 hl ⊢) <;> omega) (by decide) dX12_throwAway_75 ?_
              refine v_h (h2 := (wm (s3 (S_X12_isWrong g (0)) 68 (x).toNatClampNeg 0 (1)) r)) (u_68_a) ?_
              refine v_aload_n (pc := 76) C dX12_throwAway_76 0 rfl rfl ?_
              refine v_sipush (v := 300) (pc := 77) C dX12_throwAway_77 (by decide) ?_
              refine v_iload_n (pc := 80) C dX12_throwAway_80 2 rfl rfl ?_
              refine v_callS (pc := 81) C (c_X12_mix hG (300) (x)) 2 wd_1554 wd_68 wd_1552 wd_1553 (by decide +kernel) (by decide) (by decide) rfl ([.ref (A (40, 0))]) rfl (Nat.le_of_ble_eq_true rfl) (by decide) dX12_throwAway_81 (fun _ _ _ q => q.elim) (fun v9 A9 h9 hR9 => ?_)
              obtain ⟨rfl, hA9, rfl⟩ := hR9
              obtain rfl := hA9.symm
              refine v_st (k2 := 0) (n2 := 0) (st2 := [.int (pMix (300) (x)), .ref (A (40, 0))]) rfl rfl rfl ?_
              refine v_callV (pc := 84) C (40, 0) ck_40 rfl (c_X12_adds hG (pMix (300) (x)) (by rw [show (s3 (S_X12_isWrong g (0)) 68 (x).toNatClampNeg 0 (1)) 2 0 0 = g 2 0 0 from (s3_k (by decide)).trans (F_X12_isWrong (by decide))]; exact hu0) (by rw [show (s3 (S_X12_isWrong g (0)) 68 (x).toNatClampNeg 0 (1)) 2 0 0 = g 2 0 0 from (s3_k (by decide)).trans (F_X12_isWrong (by decide))]; exact hu) (by rw [show (s3 (S_X12_isWrong g (0)) 68 (x).toNatClampNeg 0 (1)) 3 0 0 = g 3 0 0 from (s3_k (by decide)).trans (F_X12_isWrong (by decide))]; exact hg0) (by rw [show (s3 (S_X12_isWrong g (0)) 68 (x).toNatClampNeg 0 (1)) 3 0 0 = g 3 0 0 from (s3_k (by decide)).trans (F_X12_isWrong (by decide))]; exact hg) (by rw [show (s3 (S_X12_isWrong g (0)) 68 (x).toNatClampNeg 0 (1)) 4 0 0 = g 4 0 0 from (s3_k (by decide)).trans (F_X12_isWrong (by decide))]; exact hf0) (by rw [show (s3 (S_X12_isWrong g (0)) 68 (x).toNatClampNeg 0 (1)) 4 0 0 = g 4 0 0 from (s3_k (by decide)).trans (F_X12_isWrong (by decide))]; exact hf) (by rw [show (s3 (S_X12_isWrong g (0)) 68 (x).toNatClampNeg 0 (1)) 11 0 0 = g 11 0 0 from (s3_k (by decide)).trans (F_X12_isWrong (by decide))]; exact hl0) (by (try simp only [Int32.le_iff_toInt_le, Int32.lt_iff_toInt_lt, ← Int32.toInt_inj, Int32.reduceToInt] at c_2 c_5 c_7 c_8 c_11 c_12 b_1 b_4 b_6 b_10 hu hg hf hl0 hl); rw [show (s3 (S_X12_isWrong g (0)) 68 (x).toNatClampNeg 0 (1)) 11 0 0 = g 11 0 0 from (s3_k (by decide)).trans (F_X12_isWrong (by decide))]; omega)) 1 wd_1562 wd_68 wd_1559 wd_1561 wd_39 (by decide +kernel) (by decide) (by decide) rfl ([]) rfl (Nat.le_of_ble_eq_true rfl) (by decide) dX12_throwAway_84 (fun _ _ _ q => q.elim) (fun v9 A9 h9 hR9 => ?_)
              obtain ⟨rfl, hA9, rfl⟩ := hR9
              obtain rfl := hA9.symm
              refine v_st (k2 := 0) (n2 := 0) (st2 := []) rfl rfl rfl ?_
              refine v_aload_n (pc := 87) C dX12_throwAway_87 0 rfl rfl ?_
              refine v_iload_n (pc := 88) C dX12_throwAway_88 2 rfl rfl ?_
              refine v_callV (pc := 89) C (40, 0) ck_40 rfl (c_X12_partsOf hG (x) (by rw [show (S_X12_adds (s3 (S_X12_isWrong g (0)) 68 (x).toNatClampNeg 0 (1)) (pMix (300) (x))) 2 0 0 = g 2 0 0 from (F_X12_adds (by decide) (by decide)).trans ((s3_k (by decide)).trans (F_X12_isWrong (by decide)))]; exact hu0) (by rw [show (S_X12_adds (s3 (S_X12_isWrong g (0)) 68 (x).toNatClampNeg 0 (1)) (pMix (300) (x))) 2 0 0 = g 2 0 0 from (F_X12_adds (by decide) (by decide)).trans ((s3_k (by decide)).trans (F_X12_isWrong (by decide)))]; exact hu) (by rw [show (S_X12_adds (s3 (S_X12_isWrong g (0)) 68 (x).toNatClampNeg 0 (1)) (pMix (300) (x))) 3 0 0 = g 3 0 0 from (F_X12_adds (by decide) (by decide)).trans ((s3_k (by decide)).trans (F_X12_isWrong (by decide)))]; exact hg0) (by rw [show (S_X12_adds (s3 (S_X12_isWrong g (0)) 68 (x).toNatClampNeg 0 (1)) (pMix (300) (x))) 3 0 0 = g 3 0 0 from (F_X12_adds (by decide) (by decide)).trans ((s3_k (by decide)).trans (F_X12_isWrong (by decide)))]; exact hg) (by rw [show (S_X12_adds (s3 (S_X12_isWrong g (0)) 68 (x).toNatClampNeg 0 (1)) (pMix (300) (x))) 4 0 0 = g 4 0 0 from (F_X12_adds (by decide) (by decide)).trans ((s3_k (by decide)).trans (F_X12_isWrong (by decide)))]; exact hf0) (by rw [show (S_X12_adds (s3 (S_X12_isWrong g (0)) 68 (x).toNatClampNeg 0 (1)) (pMix (300) (x))) 4 0 0 = g 4 0 0 from (F_X12_adds (by decide) (by decide)).trans ((s3_k (by decide)).trans (F_X12_isWrong (by decide)))]; exact hf) (by (try simp only [Int32.le_iff_toInt_le, Int32.lt_iff_toInt_lt, ← Int32.toInt_inj, Int32.reduceToInt] at c_2 c_5 c_7 c_8 c_11 c_12 b_1 b_4 b_6 b_10 hu hg hf hl0 hl ⊢); omega) (by (try simp only [Int32.le_iff_toInt_le, Int32.lt_iff_toInt_lt, ← Int32.toInt_inj, Int32.reduceToInt] at c_2 c_5 c_7 c_8 c_11 c_12 b_1 b_4 b_6 b_10 hu hg hf hl0 hl ⊢); omega)) 1 wd_1628 wd_68 wd_1625 wd_1627 wd_48 (by decide +kernel) (by decide) (by decide) rfl ([]) rfl (Nat.le_of_ble_eq_true rfl) (by decide) dX12_throwAway_89 (fun _ _ _ q => q.elim) (fun v9 A9 h9 hR9 => ?_)
              obtain ⟨rfl, hA9, rfl⟩ := hR9
              obtain rfl := hA9.symm
              refine v_st (k2 := 0) (n2 := 0) (st2 := [.int ((V_X12_partsOf (S_X12_adds (s3 (S_X12_isWrong g (0)) 68 (x).toNatClampNeg 0 (1)) (pMix (300) (x))) (x)))]) rfl rfl rfl ?_
              exact v_iret (pc := 92) C (by decide) (by decide) dX12_throwAway_92 ⟨(congrArg (fun q => some (Value.int q)) (by show _ = _; rw [V_X12_throwAway, if_neg c_2, if_neg c_5, if_pos c_7, if_pos c_8, if_pos c_11])), rfl, (congrArg (fun q => wm q r) (by show _ = _; rw [S_X12_throwAway, if_neg c_2, if_neg c_5, if_pos c_7, if_pos c_8, if_pos c_11]))⟩
            · skip
              exact absurd c_12 (fun q9 => q9 ((show (0 : Int32) = 0 from rfl)))
          · skip
            refine v_iconst (v := 3) (pc := 56) C dX12_throwAway_56 rfl ?_
            refine v_goto (tgt := 61) (pc := 57) C dX12_throwAway_57 (by decide) ?_
            refine v_callV (pc := 61) C (40, 0) ck_40 rfl (c_X12_isWrong hG (3) ) 1 wd_1531 wd_68 wd_1528 wd_1530 wd_35 (by decide +kernel) (by decide) (by decide) rfl ([]) rfl (Nat.le_of_ble_eq_true rfl) (by decide) dX12_throwAway_61 (fun _ _ _ q => q.elim) (fun v9 A9 h9 hR9 => ?_)
            obtain ⟨rfl, hA9, rfl⟩ := hR9
            obtain rfl := hA9.symm
            refine v_st (k2 := 0) (n2 := 0) (st2 := [.int ((V_X12_isWrong g (3)))]) rfl rfl rfl ?_
            refine v_if_eq (pc := 64) (tgt := 69) C dX12_throwAway_64 (by decide) (fun c_13 => ?_) (fun c_13 => ?_)
            · skip
              exact absurd c_13 (fun q9 => ((show ¬ (1 : Int32) = 0 from by decide)) q9)
            · skip
              refine v_iconst (v := 0) (pc := 67) C dX12_throwAway_67 rfl ?_
              exact v_iret (pc := 68) C (by decide) (by decide) dX12_throwAway_68 ⟨(congrArg (fun q => some (Value.int q)) (by show _ = _; rw [V_X12_throwAway, if_neg c_2, if_neg c_5, if_pos c_7, if_pos c_8, if_neg c_11])), rfl, (congrArg (fun q => wm q r) (by show _ = _; rw [S_X12_throwAway, if_neg c_2, if_neg c_5, if_pos c_7, if_pos c_8, if_neg c_11]))⟩
      · skip
        refine v_iconst (v := 2) (pc := 36) C dX12_throwAway_36 rfl ?_
        refine v_goto (tgt := 61) (pc := 37) C dX12_throwAway_37 (by decide) ?_
        refine v_callV (pc := 61) C (40, 0) ck_40 rfl (c_X12_isWrong hG (2) ) 1 wd_1531 wd_68 wd_1528 wd_1530 wd_35 (by decide +kernel) (by decide) (by decide) rfl ([]) rfl (Nat.le_of_ble_eq_true rfl) (by decide) dX12_throwAway_61 (fun _ _ _ q => q.elim) (fun v9 A9 h9 hR9 => ?_)
        obtain ⟨rfl, hA9, rfl⟩ := hR9
        obtain rfl := hA9.symm
        refine v_st (k2 := 0) (n2 := 0) (st2 := [.int ((V_X12_isWrong g (2)))]) rfl rfl rfl ?_
        refine v_if_eq (pc := 64) (tgt := 69) C dX12_throwAway_64 (by decide) (fun c_14 => ?_) (fun c_14 => ?_)
        · skip
          exact absurd c_14 (fun q9 => ((show ¬ (1 : Int32) = 0 from by decide)) q9)
        · skip
          refine v_iconst (v := 0) (pc := 67) C dX12_throwAway_67 rfl ?_
          exact v_iret (pc := 68) C (by decide) (by decide) dX12_throwAway_68 ⟨(congrArg (fun q => some (Value.int q)) (by show _ = _; rw [V_X12_throwAway, if_neg c_2, if_neg c_5, if_neg c_7])), rfl, (congrArg (fun q => wm q r) (by show _ = _; rw [S_X12_throwAway, if_neg c_2, if_neg c_5, if_neg c_7]))⟩
    · skip
      refine v_iconst (v := 1) (pc := 17) C dX12_throwAway_17 rfl ?_
      refine v_goto (tgt := 61) (pc := 18) C dX12_throwAway_18 (by decide) ?_
      refine v_callV (pc := 61) C (40, 0) ck_40 rfl (c_X12_isWrong hG (1) ) 1 wd_1531 wd_68 wd_1528 wd_1530 wd_35 (by decide +kernel) (by decide) (by decide) rfl ([]) rfl (Nat.le_of_ble_eq_true rfl) (by decide) dX12_throwAway_61 (fun _ _ _ q => q.elim) (fun v9 A9 h9 hR9 => ?_)
      obtain ⟨rfl, hA9, rfl⟩ := hR9
      obtain rfl := hA9.symm
      refine v_st (k2 := 0) (n2 := 0) (st2 := [.int ((V_X12_isWrong g (1)))]) rfl rfl rfl ?_
      refine v_if_eq (pc := 64) (tgt := 69) C dX12_throwAway_64 (by decide) (fun c_15 => ?_) (fun c_15 => ?_)
      · skip
        exact absurd c_15 (fun q9 => ((show ¬ (1 : Int32) = 0 from by decide)) q9)
      · skip
        refine v_iconst (v := 0) (pc := 67) C dX12_throwAway_67 rfl ?_
        exact v_iret (pc := 68) C (by decide) (by decide) dX12_throwAway_68 ⟨(congrArg (fun q => some (Value.int q)) (by show _ = _; rw [V_X12_throwAway, if_neg c_2, if_pos c_5])), rfl, (congrArg (fun q => wm q r) (by show _ = _; rw [S_X12_throwAway, if_neg c_2, if_pos c_5]))⟩
def V_X12_addUser (g : vS) (x : Int32) : Int32 := (if (V_X12_isBetween g (x) (0) (9999)) = 0 then 0 else (if (g 2 0 0) = 6 then 0 else (((g 2 0 0) + 1) - 1)))
def S_X12_addUser (g : vS) (x : Int32) : vS := (if (V_X12_isBetween g (x) (0) (9999)) = 0 then (S_X12_isWrong g (1)) else (if (g 2 0 0) = 6 then (S_X12_isWrong g (2)) else (s3 (s3 (S_X12_isWrong g (0)) 41 ((g 2 0 0)).toNatClampNeg 0 (x)) 2 0 0 (((g 2 0 0) + 1)))))
theorem F_X12_addUser {g : vS} {x : Int32} {c i j : Nat} (h1 : c ≠ 1) (h2 : c ≠ 2) (h41 : c ≠ 41) : S_X12_addUser g x c i j = g c i j := by
  unfold S_X12_addUser
  (repeat' split) <;> first | rfl | ((simp only [s3_k h1, s3_k h2, s3_k h41, F_X12_isWrong h1]) <;> first | done | rfl)
set_option maxHeartbeats 4000000 in
set_option maxRecDepth 100000 in
theorem c_X12_addUser {G : vG} (hG : G.1.stackTraces = false) {A : vN → Nat} {g : vS} {r : vH} (x : Int32) (hu0 : 0 ≤ (g 2 0 0).toInt) (hu : (g 2 0 0).toInt ≤ 6) (hg0 : 0 ≤ (g 3 0 0).toInt) (hg : (g 3 0 0).toInt ≤ 5) (hf0 : 0 ≤ (g 4 0 0).toInt) (hf : (g 4 0 0).toInt ≤ 20) : vCt G yX12_addUser cX12_addUser 2 (some .int) 1 [.ref (A (40, 0)), .int (x)] A (wm g r) (fun v A2 h2 => v = some (.int (V_X12_addUser g x)) ∧ A2 = A ∧ h2 = wm (S_X12_addUser g x) r) (vNoX) 0 0 := by
  refine v_of hG (by decide +kernel) (Nat.le_of_ble_eq_true rfl) (lv := [(0, .ref (A (40, 0))), (1, .int (x))]) rfl (fun X C hnx => ?_)
  have C : vC G X cX12_addUser 2 RX12 (some .int) "addUser" 1 0 0 := C
  refine v_aload_n (pc := 0) C dX12_addUser_0 0 rfl rfl ?_
  refine v_iload_n (pc := 1) C dX12_addUser_1 1 rfl rfl ?_
  refine v_iconst (v := 0) (pc := 2) C dX12_addUser_2 rfl ?_
  refine v_sipush (v := 9999) (pc := 3) C dX12_addUser_3 (by decide) ?_
  refine v_callS (pc := 6) C (c_X12_isBetween hG (x) (0) (9999) ) 3 wd_1527 wd_68 wd_1525 wd_1526 (by decide +kernel) (by decide) (by decide) rfl ([.ref (A (40, 0))]) rfl (Nat.le_of_ble_eq_true rfl) (by decide) dX12_addUser_6 (fun _ _ _ q => q.elim) (fun v9 A9 h9 hR9 => ?_)
  obtain ⟨rfl, hA9, rfl⟩ := hR9
  obtain rfl := hA9.symm
  refine v_st (k2 := 0) (n2 := 0) (st2 := [.int ((V_X12_isBetween g (x) (0) (9999))), .ref (A (40, 0))]) rfl rfl rfl ?_
  have b_1 := ok_btw (g := g) (x := x) (a := 0) (b := 9999)
  refine v_if_ne (pc := 9) (tgt := 16) C dX12_addUser_9 (by decide) (fun c_2 => ?_) (fun c_2 => ?_)
  · skip
    refine v_aload_n (pc := 16) C dX12_addUser_16 0 rfl rfl ?_
    refine v_get (pc := 17) C (40, 0) (v := .int ((g 2 0 0))) ck_40 rfl 13 (by decide) inX12 wd_1401 rfl rfl dX12_addUser_17 ?_
    refine v_bipush (v := 6) (pc := 20) C dX12_addUser_20 (by decide) ?_
    refine v_icmp_ne (pc := 22) (tgt := 29) C dX12_addUser_22 (by decide) (fun c_3 => ?_) (fun c_3 => ?_)
    · skip
      refine v_iconst (v := 0) (pc := 29) C dX12_addUser_29 rfl ?_
      refine v_callV (pc := 30) C (40, 0) ck_40 rfl (c_X12_isWrong hG (0) ) 1 wd_1531 wd_68 wd_1528 wd_1530 wd_35 (by decide +kernel) (by decide) (by decide) rfl ([]) rfl (Nat.le_of_ble_eq_true rfl) (by decide) dX12_addUser_30 (fun _ _ _ q => q.elim) (fun v9 A9 h9 hR9 => ?_)
      obtain ⟨rfl, hA9, rfl⟩ := hR9
      obtain rfl := hA9.symm
      refine v_st (k2 := 0) (n2 := 0) (st2 := [.int ((V_X12_isWrong g (0)))]) rfl rfl rfl ?_
      refine v_if_eq (pc := 33) (tgt := 38) C dX12_addUser_33 (by decide) (fun c_4 => ?_) (fun c_4 => ?_)
      · skip
        refine v_aload_n (pc := 38) C dX12_addUser_38 0 rfl rfl ?_
        refine v_get (pc := 39) C (40, 0) (v := .ref (A (41, 0))) ck_40 rfl 1 (by decide) inX12 wd_1389 rfl rfl dX12_addUser_39 ?_
        refine v_aload_n (pc := 42) C dX12_addUser_42 0 rfl rfl ?_
        refine v_get (pc := 43) C (40, 0) (v := .int ((g 2 0 0))) ck_40 rfl 13 (by decide) inX12 wd_1401 rfl (congrArg Value.int (F_X12_isWrong (by decide))) dX12_addUser_43 ?_
        refine v_iload_n (pc := 46) C dX12_addUser_46 1 rfl rfl ?_
        refine v_iast (pc := 47) C (41, 0) (x := x) ck_41 (by (try simp only [Int32.le_iff_toInt_le, Int32.lt_iff_toInt_lt, ← Int32.toInt_inj, vp_in_iff, Int32.reduceToInt] at c_2 c_3 c_4 b_1 hu hg hf ⊢) <;> omega) dX12_addUser_47 ?_
        refine v_h (h2 := (wm (s3 (S_X12_isWrong g (0)) 41 ((g 2 0 0)).toNatClampNeg 0 (x)) r)) (u_41_a) ?_
        refine v_aload_n (pc := 48) C dX12_addUser_48 0 rfl rfl ?_
        refine v_dup (pc := 49) C dX12_addUser_49 rfl ?_
        refine v_get (pc := 50) C (40, 0) (v := .int ((g 2 0 0))) ck_40 rfl 13 (by decide) inX12 wd_1401 rfl (congrArg Value.int ((s3_k (by decide)).trans (F_X12_isWrong (by decide)))) dX12_addUser_50 ?_
        refine v_iconst (v := 1) (pc := 53) C dX12_addUser_53 rfl ?_
        refine v_iadd (pc := 54) C dX12_addUser_54 ?_
        refine v_put (pc := 55) C (40, 0) (v := .int (((g 2 0 0) + 1))) ck_40 rfl 13 (by decide) inX12 tyX12 tyX12_ok nmX12 wd_1401 rfl (.inl (Value.int (((g 2 0 0) + 1)))) rfl (ty := tyX12 13) (by decide +kernel) rfl rfl (Nat.le_of_ble_eq_true rfl) dX12_addUser_55 ?_
        refine v_h (h2 := (wm (s3 (s3 (S_X12_isWrong g (0)) 41 ((g 2 0 0)).toNatClampNeg 0 (x)) 2 0 0 (((g 2 0 0) + 1))) r)) (u_40_13) ?_
        refine v_aload_n (pc := 58) C dX12_addUser_58 0 rfl rfl ?_
        refine v_get (pc := 59) C (40, 0) (v := .int (((g 2 0 0) + 1))) ck_40 rfl 13 (by decide) inX12 wd_1401 rfl (congrArg Value.int (s3_s)) dX12_addUser_59 ?_
        refine v_iconst (v := 1) (pc := 62) C dX12_addUser_62 rfl ?_
        refine v_isub (pc := 63) C dX12_addUser_63 ?_
        exact v_iret (pc := 64) C (by decide) (by decide) dX12_addUser_64 ⟨(congrArg (fun q => some (Value.int q)) (by show _ = _; rw [V_X12_addUser, if_neg c_2, if_neg c_3])), rfl, (congrArg (fun q => wm q r) (by show _ = _; rw [S_X12_addUser, if_neg c_2, if_neg c_3]))⟩
      · skip
        exact absurd c_4 (fun q9 => q9 ((show (0 : Int32) = 0 from rfl)))
    · skip
      refine v_iconst (v := 2) (pc := 25) C dX12_addUser_25 rfl ?_
      refine v_goto (tgt := 30) (pc := 26) C dX12_addUser_26 (by decide) ?_
      refine v_callV (pc := 30) C (40, 0) ck_40 rfl (c_X12_isWrong hG (2) ) 1 wd_1531 wd_68 wd_1528 wd_1530 wd_35 (by decide +kernel) (by decide) (by decide) rfl ([]) rfl (Nat.le_of_ble_eq_true rfl) (by decide) dX12_addUser_30 (fun _ _ _ q => q.elim) (fun v9 A9 h9 hR9 => ?_)
      obtain ⟨rfl, hA9, rfl⟩ := hR9
      obtain rfl := hA9.symm
      refine v_st (k2 := 0) (n2 := 0) (st2 := [.int ((V_X12_isWrong g (2)))]) rfl rfl rfl ?_
      refine v_if_eq (pc := 33) (tgt := 38) C dX12_addUser_33 (by decide) (fun c_5 => ?_) (fun c_5 => ?_)
      · skip
        exact absurd c_5 (fun q9 => ((show ¬ (1 : Int32) = 0 from by decide)) q9)
      · skip
        refine v_iconst (v := 0) (pc := 36) C dX12_addUser_36 rfl ?_
        exact v_iret (pc := 37) C (by decide) (by decide) dX12_addUser_37 ⟨(congrArg (fun q => some (Value.int q)) (by show _ = _; rw [V_X12_addUser, if_neg c_2, if_pos c_3])), rfl, (congrArg (fun q => wm q r) (by show _ = _; rw [S_X12_addUser, if_neg c_2, if_pos c_3]))⟩
  · skip
    refine v_iconst (v := 1) (pc := 12) C dX12_addUser_12 rfl ?_
    refine v_goto (tgt := 30) (pc := 13) C dX12_addUser_13 (by decide) ?_
    refine v_callV (pc := 30) C (40, 0) ck_40 rfl (c_X12_isWrong hG (1) ) 1 wd_1531 wd_68 wd_1528 wd_1530 wd_35 (by decide +kernel) (by decide) (by decide) rfl ([]) rfl (Nat.le_of_ble_eq_true rfl) (by decide) dX12_addUser_30 (fun _ _ _ q => q.elim) (fun v9 A9 h9 hR9 => ?_)
    obtain ⟨rfl, hA9, rfl⟩ := hR9
    obtain rfl := hA9.symm
    refine v_st (k2 := 0) (n2 := 0) (st2 := [.int ((V_X12_isWrong g (1)))]) rfl rfl rfl ?_
    refine v_if_eq (pc := 33) (tgt := 38) C dX12_addUser_33 (by decide) (fun c_6 => ?_) (fun c_6 => ?_)
    · skip
      exact absurd c_6 (fun q9 => ((show ¬ (1 : Int32) = 0 from by decide)) q9)
    · skip
      refine v_iconst (v := 0) (pc := 36) C dX12_addUser_36 rfl ?_
      exact v_iret (pc := 37) C (by decide) (by decide) dX12_addUser_37 ⟨(congrArg (fun q => some (Value.int q)) (by show _ = _; rw [V_X12_addUser, if_pos c_2])), rfl, (congrArg (fun q => wm q r) (by show _ = _; rw [S_X12_addUser, if_pos c_2]))⟩
def VL_X12_addGroup_70 (g : vS) (u : Int32) (x : Int32) : Nat → Nat → vS → Int32
  | 0, _, _ => 0
  | n + 1, i_70, q_70 => (if 6 ≤ nI i_70 then (((g 3 0 0) + 1) - 1) else (VL_X12_addGroup_70 g u x n (i_70 + 1) (s3 q_70 54 ((g 3 0 0)).toNatClampNeg i_70 (-1))))
def SL_X12_addGroup_70 (g : vS) (u : Int32) (x : Int32) : Nat → Nat → vS → vS
  | 0, _, q9 => q9
  | n + 1, i_70, q_70 => (if 6 ≤ nI i_70 then (s3 (s3 q_70 52 ((g 3 0 0)).toNatClampNeg (u).toNatClampNeg (1)) 3 0 0 (((g 3 0 0) + 1))) else (SL_X12_addGroup_70 g u x n (i_70 + 1) (s3 q_70 54 ((g 3 0 0)).toNatClampNeg i_70 (-1))))
def V_X12_addGroup (g : vS) (u : Int32) (x : Int32) : Int32 := (if (V_X12_isUser g (u)) = 0 then 0 else (if (V_X12_isBetween g (x) (1) (40)) = 0 then 0 else (if (g 3 0 0) = 5 then 0 else (VL_X12_addGroup_70 g u x (6 + 1) 0 (s3 (s3 (S_X12_isWrong g (0)) 48 ((g 3 0 0)).toNatClampNeg 0 (u)) 49 ((g 3 0 0)).toNatClampNeg 0 (x))))))
def S_X12_addGroup (g : vS) (u : Int32) (x : Int32) : vS := (if (V_X12_isUser g (u)) = 0 then (S_X12_isWrong g (1)) else (if (V_X12_isBetween g (x) (1) (40)) = 0 then (S_X12_isWrong g (2)) else (if (g 3 0 0) = 5 then (S_X12_isWrong g (3)) else (SL_X12_addGroup_70 g u x (6 + 1) 0 (s3 (s3 (S_X12_isWrong g (0)) 48 ((g 3 0 0)).toNatClampNeg 0 (u)) 49 ((g 3 0 0)).toNatClampNeg 0 (x))))))
theorem FL_X12_addGroup_70 {g : vS} {u : Int32} {x : Int32} {c i j : Nat} (h1 : c ≠ 1) (h3 : c ≠ 3) (h48 : c ≠ 48) (h49 : c ≠ 49) (h52 : c ≠ 52) (h54 : c ≠ 54) : ∀ (n : Nat) (a0 : Nat) (a1 : vS), a1 c i j = g c i j → SL_X12_addGroup_70 g u x n a0 a1 c i j = g c i j := by
  intro n
  induction n with
  | zero => intro a0 a1 hq9; exact hq9
  | succ n ih =>
    intro a0 a1 hq9
    simp only [SL_X12_addGroup_70]
    (repeat' split) <;> first | rfl | exact hq9 | (apply ih; first | exact hq9 | rfl | trivial | ((simp only [s3_k h1, s3_k h3, s3_k h48, s3_k h49, s3_k h52, s3_k h54, F_X12_isWrong h1]) <;> first | done | exact hq9 | rfl)) | ((simp only [s3_k h1, s3_k h3, s3_k h48, s3_k h49, s3_k h52, s3_k h54, F_X12_isWrong h1]) <;> first | done | exact hq9 | rfl)
theorem F_X12_addGroup {g : vS} {u : Int32} {x : Int32} {c i j : Nat} (h1 : c ≠ 1) (h3 : c ≠ 3) (h48 : c ≠ 48) (h49 : c ≠ 49) (h52 : c ≠ 52) (h54 : c ≠ 54) : S_X12_addGroup g u x c i j = g c i j := by
  unfold S_X12_addGroup
  (repeat' split) <;> first | rfl | (apply FL_X12_addGroup_70 h1 h3 h48 h49 h52 h54; first | rfl | trivial | ((simp only [s3_k h1, s3_k h3, s3_k h48, s3_k h49, s3_k h52, s3_k h54, F_X12_isWrong h1]) <;> first | done | rfl)) | ((simp only [s3_k h1, s3_k h3, s3_k h48, s3_k h49, s3_k h52, s3_k h54, F_X12_isWrong h1]) <;> first | done | rfl)
set_option maxHeartbeats 4000000 in
set_option maxRecDepth 100000 in
theorem c_X12_addGroup {G : vG} (hG : G.1.stackTraces = false) {A : vN → Nat} {g : vS} {r : vH} (u : Int32) (x : Int32) (hu0 : 0 ≤ (g 2 0 0).toInt) (hu : (g 2 0 0).toInt ≤ 6) (hg0 : 0 ≤ (g 3 0 0).toInt) (hg : (g 3 0 0).toInt ≤ 5) (hf0 : 0 ≤ (g 4 0 0).toInt) (hf : (g 4 0 0).toInt ≤ 20) : vCt G yX12_addGroup cX12_addGroup 4 (some .int) 2 [.ref (A (40, 0)), .int (u), .int (x)] A (wm g r) (fun v A2 h2 => v = some (.int (V_X12_addGroup g u x)) ∧ A2 = A ∧ h2 = wm (S_X12_addGroup g u x) r) (vNoX) 0 0 := by
  refine v_of hG (by decide +kernel) (Nat.le_of_ble_eq_true rfl) (lv := [(0, .ref (A (40, 0))), (1, .int (u)), (2, .int (x))]) rfl (fun X C hnx => ?_)
  have C : vC G X cX12_addGroup 4 RX12 (some .int) "addGroup" 2 0 0 := C
  refine v_aload_n (pc := 0) C dX12_addGroup_0 0 rfl rfl ?_
  refine v_aload_n (pc := 1) C dX12_addGroup_1 0 rfl rfl ?_
  refine v_iload_n (pc := 2) C dX12_addGroup_2 1 rfl rfl ?_
  refine v_callV (pc := 3) C (40, 0) ck_40 rfl (c_X12_isUser hG (u) ) 1 wd_1539 wd_68 wd_1536 wd_1538 wd_36 (by decide +kernel) (by decide) (by decide) rfl ([.ref (A (40, 0))]) rfl (Nat.le_of_ble_eq_true rfl) (by decide) dX12_addGroup_3 (fun _ _ _ q => q.elim) (fun v9 A9 h9 hR9 => ?_)
  obtain ⟨rfl, hA9, rfl⟩ := hR9
  obtain rfl := hA9.symm
  refine v_st (k2 := 0) (n2 := 0) (st2 := [.int ((V_X12_isUser g (u))), .ref (A (40, 0))]) rfl rfl rfl ?_
  have b_1 := ok_isUser (g := g) (x := u) hu0
  refine v_if_ne (pc := 6) (tgt := 13) C dX12_addGroup_6 (by decide) (fun c_2 => ?_) (fun c_2 => ?_)
  · skip
    refine v_iload_n (pc := 13) C dX12_addGroup_13 2 rfl rfl ?_
    refine v_iconst (v := 1) (pc := 14) C dX12_addGroup_14 rfl ?_
    refine v_bipush (v := 40) (pc := 15) C dX12_addGroup_15 (by decide) ?_
    refine v_callS (pc := 17) C (c_X12_isBetween hG (x) (1) (40) ) 3 wd_1527 wd_68 wd_1525 wd_1526 (by decide +kernel) (by decide) (by decide) rfl ([.ref (A (40, 0))]) rfl (Nat.le_of_ble_eq_true rfl) (by decide) dX12_addGroup_17 (fun _ _ _ q => q.elim) (fun v9 A9 h9 hR9 => ?_)
    obtain ⟨rfl, hA9, rfl⟩ := hR9
    obtain rfl := hA9.symm
    refine v_st (k2 := 0) (n2 := 0) (st2 := [.int ((V_X12_isBetween g (x) (1) (40))), .ref (A (40, 0))]) rfl rfl rfl ?_
    have b_3 := ok_btw (g := g) (x := x) (a := 1) (b := 40)
    refine v_if_ne (pc := 20) (tgt := 27) C dX12_addGroup_20 (by decide) (fun c_4 => ?_) (fun c_4 => ?_)
    · skip
      refine v_aload_n (pc := 27) C dX12_addGroup_27 0 rfl rfl ?_
      refine v_get (pc := 28) C (40, 0) (v := .int ((g 3 0 0))) ck_40 rfl 14 (by decide) inX12 wd_1402 rfl rfl dX12_addGroup_28 ?_
      refine v_iconst (v := 5) (pc := 31) C dX12_addGroup_31 rfl ?_
      refine v_icmp_ne (pc := 32) (tgt := 39) C dX12_addGroup_32 (by decide) (fun c_5 => ?_) (fun c_5 => ?_)
      · skip
        refine v_iconst (v := 0) (pc := 39) C dX12_addGroup_39 rfl ?_
        refine v_callV (pc := 40) C (40, 0) ck_40 rfl (c_X12_isWrong hG (0) ) 1 wd_1531 wd_68 wd_1528 wd_1530 wd_35 (by decide +kernel) (by decide) (by decide) rfl ([]) rfl (Nat.le_of_ble_eq_true rfl) (by decide) dX12_addGroup_40 (fun _ _ _ q => q.elim) (fun v9 A9 h9 hR9 => ?_)
        obtain ⟨rfl, hA9, rfl⟩ := hR9
        obtain rfl := hA9.symm
        refine v_st (k2 := 0) (n2 := 0) (st2 := [.int ((V_X12_isWrong g (0)))]) rfl rfl rfl ?_
        refine v_if_eq (pc := 43) (tgt := 48) C dX12_addGroup_43 (by decide) (fun c_6 => ?_) (fun c_6 => ?_)
        · skip
          refine v_aload_n (pc := 48) C dX12_addGroup_48 0 rfl rfl ?_
          refine v_get (pc := 49) C (40, 0) (v := .ref (A (48, 0))) ck_40 rfl 8 (by decide) inX12 wd_1396 rfl rfl dX12_addGroup_49 ?_
          refine v_aload_n (pc := 52) C dX12_addGroup_52 0 rfl rfl ?_
          refine v_get (pc := 53) C (40, 0) (v := .int ((g 3 0 0))) ck_40 rfl 14 (by decide) inX12 wd_1402 rfl (congrArg Value.int (F_X12_isWrong (by decide))) dX12_addGroup_53 ?_
          refine v_iload_n (pc := 56) C dX12_addGroup_56 1 rfl rfl ?_
          refine v_iast (pc := 57) C (48, 0) (x := u) ck_48 (by (try simp only [Int32.le_iff_toInt_le, Int32.lt_iff_toInt_lt, ← Int32.toInt_inj, vp_in_iff, Int32.reduceToInt] at c_2 c_4 c_5 c_6 b_1 b_3 hu hg hf ⊢) <;> omega) dX12_addGroup_57 ?_
          refine v_h (h2 := (wm (s3 (S_X12_isWrong g (0)) 48 ((g 3 0 0)).toNatClampNeg 0 (u)) r)) (u_48_a) ?_
          refine v_aload_n (pc := 58) C dX12_addGroup_58 0 rfl rfl ?_
          refine v_get (pc := 59) C (40, 0) (v := .ref (A (49, 0))) ck_40 rfl 9 (by decide) inX12 wd_1397 rfl rfl dX12_addGroup_59 ?_
          refine v_aload_n (pc := 62) C dX12_addGroup_62 0 rfl rfl ?_
          refine v_get (pc := 63) C (40, 0) (v := .int ((g 3 0 0))) ck_40 rfl 14 (by decide) inX12 wd_1402 rfl (congrArg Value.int ((s3_k (by decide)).trans (F_X12_isWrong (by decide)))) dX12_addGroup_63 ?_
          refine v_iload_n (pc := 66) C dX12_addGroup_66 2 rfl rfl ?_
          refine v_iast (pc := 67) C (49, 0) (x := x) ck_49 (by (try simp only [Int32.le_iff_toInt_le, Int32.lt_iff_toInt_lt, ← Int32.toInt_inj, vp_in_iff, Int32.reduceToInt] at c_2 c_4 c_5 c_6 b_1 b_3 hu hg hf ⊢) <;> omega) dX12_addGroup_67 ?_
          refine v_h (h2 := (wm (s3 (s3 (S_X12_isWrong g (0)) 48 ((g 3 0 0)).toNatClampNeg 0 (u)) 49 ((g 3 0 0)).toNatClampNeg 0 (x)) r)) (u_49_a) ?_
          refine v_iconst (v := 0) (pc := 68) C dX12_addGroup_68 rfl ?_
          refine v_istore_n (lv2 := [(3, .int (0)), (0, .ref (A (40, 0))), (1, .int (u)), (2, .int (x))]) (pc := 69) C dX12_addGroup_69 rfl (by decide) rfl ?_
          have L_70 : ∀ (n : Nat) (i_70 : Nat) (q_70 : vS), i_70 ≤ 6 → 6 + 1 ≤ i_70 + n → (∀ (c i j : Nat), c ≠ 1 → c ≠ 48 → c ≠ 49 → c ≠ 54 → q_70 c i j = g c i j) → (V_X12_addGroup g u x) = VL_X12_addGroup_70 g u x n i_70 q_70 → (S_X12_addGroup g u x) = SL_X12_addGroup_70 g u x n i_70 q_70 → V G 4 X A (wm q_70 r) 0 0 (vM G X (fun v A2 h2 => v = some (.int (V_X12_addGroup g u x)) ∧ A2 = A ∧ h2 = wm (S_X12_addGroup g u x) r) (vNoX) 0 0) 70 [(3, .int (nI i_70)), (0, .ref (A (40, 0))), (1, .int (u)), (2, .int (x))] [] := by
            intro n
            induction n with
            | zero => intro i_70 q_70 hi_70 hc_70 hF_70 eV_70 eS_70; exact absurd hc_70 (by omega)
            | succ n ih =>
              intro i_70 q_70 hi_70 hc_70 hF_70 eV_70 eS_70
              have hq_70 : (nI i_70).toInt = (i_70 : Int) := nI_toInt (by omega)
              have hr_70 : (nI (i_70 + 1)).toInt = ((i_70 + 1 : Nat) : Int) := nI_toInt (by omega)
              refine v_iload_n (pc := 70) C dX12_addGroup_70 0 rfl rfl ?_
              refine v_bipush (v := 6) (pc := 71) C dX12_addGroup_71 (by decide) ?_
              refine v_icmp_ge (pc := 73) (tgt := 94) C dX12_addGroup_73 (by decide) (fun c_7 => ?_) (fun c_7 => ?_)
              · skip
                refine v_aload_n (pc := 94) C dX12_addGroup_94 1 rfl rfl ?_
                refine v_get (pc := 95) C (40, 0) (v := .ref (A (51, 0))) ck_40 rfl 11 (by decide) inX12 wd_1399 rfl rfl dX12_addGroup_95 ?_
                refine v_aload_n (pc := 98) C dX12_addGroup_98 1 rfl rfl ?_
                refine v_get (pc := 99) C (40, 0) (v := .int ((g 3 0 0))) ck_40 rfl 14 (by decide) inX12 wd_1402 rfl (congrArg Value.int (hF_70 _ _ _ (by decide) (by decide) (by decide) (by decide))) dX12_addGroup_99 ?_
                refine v_aald (pc := 102) C (51, 0) ck_51 rfl rfl (by (try simp only [Int32.le_iff_toInt_le, Int32.lt_iff_toInt_lt, ← Int32.toInt_inj, vp_in_iff, Int32.reduceToInt] at c_2 c_4 c_5 c_6 c_7 b_1 b_3 hq_70 hr_70 hu hg hf ⊢) <;> omega) (52, ((g 3 0 0)).toNatClampNeg) rfl dX12_addGroup_102 ?_
                refine v_iload_n (pc := 103) C dX12_addGroup_103 2 rfl rfl ?_
                refine v_iconst (v := 1) (pc := 104) C dX12_addGroup_104 rfl ?_
                refine v_zast (pc := 105) C (52, ((g 3 0 0)).toNatClampNeg) (x := 1) (ck_52 (g := q_70) (tn_lt (by (try simp only [Int32.le_iff_toInt_le, Int32.lt_iff_toInt_lt, ← Int32.toInt_inj, Int32.reduceToInt] at c_2 c_4 c_5 c_6 c_7 b_1 b_3 hq_70 hr_70 hu hg hf ⊢); omega))) (by (try simp only [Int32.le_iff_toInt_le, Int32.lt_iff_toInt_lt, ← Int32.toInt_inj, vp_in_iff, Int32.reduceToInt] at c_2 c_4 c_5 c_6 c_7 b_1 b_3 hq_70 hr_70 hu hg hf ⊢) <;> omega) (by decide) dX12_addGroup_105 ?_
                refine v_h (h2 := (wm (s3 q_70 52 ((g 3 0 0)).toNatClampNeg (u).toNatClampNeg (1)) r)) (u_52_a (g := q_70) (tn_lt (by (try simp only [Int32.le_iff_toInt_le, Int32.lt_iff_toInt_lt, ← Int32.toInt_inj, Int32.reduceToInt] at c_2 c_4 c_5 c_6 c_7 b_1 b_3 hq_70 hr_70 hu hg hf ⊢); omega))) ?_
                refine v_aload_n (pc := 106) C dX12_addGroup_106 1 rfl rfl ?_
                refine v_dup (pc := 107) C dX12_addGroup_107 rfl ?_
                refine v_get (pc := 108) C (40, 0) (v := .int ((g 3 0 0))) ck_40 rfl 14 (by decide) inX12 wd_1402 rfl (congrArg Value.int ((s3_k (by decide)).trans (hF_70 _ _ _ (by decide) (by decide) (by decide) (by decide)))) dX12_addGroup_108 ?_
                refine v_iconst (v := 1) (pc := 111) C dX12_addGroup_111 rfl ?_
                refine v_iadd (pc := 112) C dX12_addGroup_112 ?_
                refine v_put (pc := 113) C (40, 0) (v := .int (((g 3 0 0) + 1))) ck_40 rfl 14 (by decide) inX12 tyX12 tyX12_ok nmX12 wd_1402 rfl (.inl (Value.int (((g 3 0 0) + 1)))) rfl (ty := tyX12 14) (by decide +kernel) rfl rfl (Nat.le_of_ble_eq_true rfl) dX12_addGroup_113 ?_
                refine v_h (h2 := (wm (s3 (s3 q_70 52 ((g 3 0 0)).toNatClampNeg (u).toNatClampNeg (1)) 3 0 0 (((g 3 0 0) + 1))) r)) (u_40_14) ?_
                refine v_aload_n (pc := 116) C dX12_addGroup_116 1 rfl rfl ?_
                refine v_get (pc := 117) C (40, 0) (v := .int (((g 3 0 0) + 1))) ck_40 rfl 14 (by decide) inX12 wd_1402 rfl (congrArg Value.int (s3_s)) dX12_addGroup_117 ?_
                refine v_iconst (v := 1) (pc := 120) C dX12_addGroup_120 rfl ?_
                refine v_isub (pc := 121) C dX12_addGroup_121 ?_
                exact v_iret (pc := 122) C (by decide) (by decide) dX12_addGroup_122 ⟨(congrArg (fun q => some (Value.int q)) (by show _ = _; rw [eV_70, VL_X12_addGroup_70, if_pos c_7])), rfl, (congrArg (fun q => wm q r) (by show _ = _; rw [eS_70, SL_X12_addGroup_70, if_pos c_7]))⟩
              · skip
                refine v_aload_n (pc := 76) C dX12_addGroup_76 1 rfl rfl ?_
                refine v_get (pc := 77) C (40, 0) (v := .ref (A (53, 0))) ck_40 rfl 12 (by decide) inX12 wd_1400 rfl rfl dX12_addGroup_77 ?_
                refine v_aload_n (pc := 80) C dX12_addGroup_80 1 rfl rfl ?_
                refine v_get (pc := 81) C (40, 0) (v := .int ((g 3 0 0))) ck_40 rfl 14 (by decide) inX12 wd_1402 rfl (congrArg Value.int (hF_70 _ _ _ (by decide) (by decide) (by decide) (by decide))) dX12_addGroup_81 ?_
                refine v_aald (pc := 84) C (53, 0) ck_53 rfl rfl (by (try simp only [Int32.le_iff_toInt_le, Int32.lt_iff_toInt_lt, ← Int32.toInt_inj, vp_in_iff, Int32.reduceToInt] at c_2 c_4 c_5 c_6 c_7 b_1 b_3 hq_70 hr_70 hu hg hf ⊢) <;> omega) (54, ((g 3 0 0)).toNatClampNeg) rfl dX12_addGroup_84 ?_
                refine v_iload_n (pc := 85) C dX12_addGroup_85 0 rfl rfl ?_
                refine v_iconst (v := -1) (pc := 86) C dX12_addGroup_86 rfl ?_
                refine v_iast (pc := 87) C (54, ((g 3 0 0)).toNatClampNeg) (x := -1) (ck_54 (g := q_70) (tn_lt (by (try simp only [Int32.le_iff_toInt_le, Int32.lt_iff_toInt_lt, ← Int32.toInt_inj, Int32.reduceToInt] at c_2 c_4 c_5 c_6 c_7 b_1 b_3 hq_70 hr_70 hu hg hf ⊢); omega))) (by (try simp only [Int32.le_iff_toInt_le, Int32.lt_iff_toInt_lt, ← Int32.toInt_inj, vp_in_iff, Int32.reduceToInt] at c_2 c_4 c_5 c_6 c_7 b_1 b_3 hq_70 hr_70 hu hg hf ⊢) <;> omega) dX12_addGroup_87 ?_
                rw [show (nI i_70 : Int32).toNatClampNeg = i_70 from (nI_clamp (by omega))]
                refine v_h (h2 := (wm (s3 q_70 54 ((g 3 0 0)).toNatClampNeg i_70 (-1)) r)) (u_54_a (g := q_70) (tn_lt (by (try simp only [Int32.le_iff_toInt_le, Int32.lt_iff_toInt_lt, ← Int32.toInt_inj, Int32.reduceToInt] at c_2 c_4 c_5 c_6 c_7 b_1 b_3 hq_70 hr_70 hu hg hf ⊢); omega))) ?_
                refine v_iinc (v := nI (i_70 + 1)) (lv2 := [(3, .int (nI (i_70 + 1))), (0, .ref (A (40, 0))), (1, .int (u)), (2, .int (x))]) (pc := 88) C dX12_addGroup_88 0 rfl (nI_1 _) (by decide) rfl ?_
                refine v_goto (tgt := 70) (pc := 91) C dX12_addGroup_91 (by decide) ?_
                refine v_lv (lv2 := [(3, .int (nI (i_70 + 1))), (0, .ref (A (40, 0))), (1, .int (u)), (2, .int (x))]) [0, 1, 2, 3] rfl ?_
                exact ih (i_70 + 1) (s3 q_70 54 ((g 3 0 0)).toNatClampNeg i_70 (-1)) (by (try simp only [Int32.le_iff_toInt_le, Int32.lt_iff_toInt_lt, ← Int32.toInt_inj, vp_in_iff, Int32.reduceToInt] at c_2 c_4 c_5 c_6 c_7 b_1 b_3 hq_70 hr_70 hu hg hf ⊢) <;> omega) (by omega) (fun c i j h1 h48 h49 h54 => (s3_k h54).trans (hF_70 c i j h1 h48 h49 h54)) (by rw [eV_70, VL_X12_addGroup_70, if_neg c_7]) (by rw [eS_70, SL_X12_addGroup_70, if_neg c_7])
          exact L_70 (6 + 1) 0 (s3 (s3 (S_X12_isWrong g (0)) 48 ((g 3 0 0)).toNatClampNeg 0 (u)) 49 ((g 3 0 0)).toNatClampNeg 0 (x)) (by omega) (by omega) (fun c i j h1 h48 h49 h54 => (s3_k h49).trans ((s3_k h48).trans (F_X12_isWrong h1))) (by rw [V_X12_addGroup, if_neg c_2, if_neg c_4, if_neg c_5]) (by rw [S_X12_addGroup, if_neg c_2, if_neg c_4, if_neg c_5])
        · skip
          exact absurd c_6 (fun q9 => q9 ((show (0 : Int32) = 0 from rfl)))
      · skip
        refine v_iconst (v := 3) (pc := 35) C dX12_addGroup_35 rfl ?_
        refine v_goto (tgt := 40) (pc := 36) C dX12_addGroup_36 (by decide) ?_
        refine v_callV (pc := 40) C (40, 0) ck_40 rfl (c_X12_isWrong hG (3) ) 1 wd_1531 wd_68 wd_1528 wd_1530 wd_35 (by decide +kernel) (by decide) (by decide) rfl ([]) rfl (Nat.le_of_ble_eq_true rfl) (by decide) dX12_addGroup_40 (fun _ _ _ q => q.elim) (fun v9 A9 h9 hR9 => ?_)
        obtain ⟨rfl, hA9, rfl⟩ := hR9
        obtain rfl := hA9.symm
        refine v_st (k2 := 0) (n2 := 0) (st2 := [.int ((V_X12_isWrong g (3)))]) rfl rfl rfl ?_
        refine v_if_eq (pc := 43) (tgt := 48) C dX12_addGroup_43 (by decide) (fun c_8 => ?_) (fun c_8 => ?_)
        · skip
          exact absurd c_8 (fun q9 => ((show ¬ (1 : Int32) = 0 from by decide)) q9)
        · skip
          refine v_iconst (v := 0) (pc := 46) C dX12_addGroup_46 rfl ?_
          exact v_iret (pc := 47) C (by decide) (by decide) dX12_addGroup_47 ⟨(congrArg (fun q => some (Value.int q)) (by show _ = _; rw [V_X12_addGroup, if_neg c_2, if_neg c_4, if_pos c_5])), rfl, (congrArg (fun q => wm q r) (by show _ = _; rw [S_X12_addGroup, if_neg c_2, if_neg c_4, if_pos c_5]))⟩
    · skip
      refine v_iconst (v := 2) (pc := 23) C dX12_addGroup_23 rfl ?_
      refine v_goto (tgt := 40) (pc := 24) C dX12_addGroup_24 (by decide) ?_
      refine v_callV (pc := 40) C (40, 0) ck_40 rfl (c_X12_isWrong hG (2) ) 1 wd_1531 wd_68 wd_1528 wd_1530 wd_35 (by decide +kernel) (by decide) (by decide) rfl ([]) rfl (Nat.le_of_ble_eq_true rfl) (by decide) dX12_addGroup_40 (fun _ _ _ q => q.elim) (fun v9 A9 h9 hR9 => ?_)
      obtain ⟨rfl, hA9, rfl⟩ := hR9
      obtain rfl := hA9.symm
      refine v_st (k2 := 0) (n2 := 0) (st2 := [.int ((V_X12_isWrong g (2)))]) rfl rfl rfl ?_
      refine v_if_eq (pc := 43) (tgt := 48) C dX12_addGroup_43 (by decide) (fun c_9 => ?_) (fun c_9 => ?_)
      · skip
        exact absurd c_9 (fun q9 => ((show ¬ (1 : Int32) = 0 from by decide)) q9)
      · skip
        refine v_iconst (v := 0) (pc := 46) C dX12_addGroup_46 rfl ?_
        exact v_iret (pc := 47) C (by decide) (by decide) dX12_addGroup_47 ⟨(congrArg (fun q => some (Value.int q)) (by show _ = _; rw [V_X12_addGroup, if_neg c_2, if_pos c_4])), rfl, (congrArg (fun q => wm q r) (by show _ = _; rw [S_X12_addGroup, if_neg c_2, if_pos c_4]))⟩
  · skip
    refine v_iconst (v := 1) (pc := 9) C dX12_addGroup_9 rfl ?_
    refine v_goto (tgt := 40) (pc := 10) C dX12_addGroup_10 (by decide) ?_
    refine v_callV (pc := 40) C (40, 0) ck_40 rfl (c_X12_isWrong hG (1) ) 1 wd_1531 wd_68 wd_1528 wd_1530 wd_35 (by decide +kernel) (by decide) (by decide) rfl ([]) rfl (Nat.le_of_ble_eq_true rfl) (by decide) dX12_addGroup_40 (fun _ _ _ q => q.elim) (fun v9 A9 h9 hR9 => ?_)
    obtain ⟨rfl, hA9, rfl⟩ := hR9
    obtain rfl := hA9.symm
    refine v_st (k2 := 0) (n2 := 0) (st2 := [.int ((V_X12_isWrong g (1)))]) rfl rfl rfl ?_
    refine v_if_eq (pc := 43) (tgt := 48) C dX12_addGroup_43 (by decide) (fun c_10 => ?_) (fun c_10 => ?_)
    · skip
      exact absurd c_10 (fun q9 => ((show ¬ (1 : Int32) = 0 from by decide)) q9)
    · skip
      refine v_iconst (v := 0) (pc := 46) C dX12_addGroup_46 rfl ?_
      exact v_iret (pc := 47) C (by decide) (by decide) dX12_addGroup_47 ⟨(congrArg (fun q => some (Value.int q)) (by show _ = _; rw [V_X12_addGroup, if_pos c_2])), rfl, (congrArg (fun q => wm q r) (by show _ = _; rw [S_X12_addGroup, if_pos c_2]))⟩
def VL_X12_join_78 (g : vS) (x : Int32) (u : Int32) : Nat → Nat → Int32 → vS → Int32
  | 0, _, _, _ => 0
  | n + 1, i_78, x_78_3, q_78 => (if 6 ≤ nI i_78 then x_78_3 else (if (q_78 52 (x).toNatClampNeg i_78) = 0 then (VL_X12_join_78 g x u n (i_78 + 1) ((x_78_3 + 0)) q_78) else (VL_X12_join_78 g x u n (i_78 + 1) ((x_78_3 + 1)) q_78)))
def SL_X12_join_78 (g : vS) (x : Int32) (u : Int32) : Nat → Nat → Int32 → vS → vS
  | 0, _, _, q9 => q9
  | n + 1, i_78, x_78_3, q_78 => (if 6 ≤ nI i_78 then q_78 else (if (q_78 52 (x).toNatClampNeg i_78) = 0 then (SL_X12_join_78 g x u n (i_78 + 1) ((x_78_3 + 0)) q_78) else (SL_X12_join_78 g x u n (i_78 + 1) ((x_78_3 + 1)) q_78)))
def V_X12_join (g : vS) (x : Int32) (u : Int32) : Int32 := (if (V_X12_isGroup g (x)) = 0 then 0 else (if (V_X12_isUser g (u)) = 0 then 0 else (if (g 52 (x).toNatClampNeg (u).toNatClampNeg) = 0 then (if (V_X12_isFull g) = 0 then (VL_X12_join_78 g x u (6 + 1) 0 (0) (S_X12_adds (s3 (S_X12_isWrong g (0)) 52 (x).toNatClampNeg (u).toNatClampNeg (1)) (pMix ((100 + x)) (u)))) else 0) else 0)))
def S_X12_join (g : vS) (x : Int32) (u : Int32) : vS := (if (V_X12_isGroup g (x)) = 0 then (S_X12_isWrong g (1)) else (if (V_X12_isUser g (u)) = 0 then (S_X12_isWrong g (1)) else (if (g 52 (x).toNatClampNeg (u).toNatClampNeg) = 0 then (if (V_X12_isFull g) = 0 then (SL_X12_join_78 g x u (6 + 1) 0 (0) (S_X12_adds (s3 (S_X12_isWrong g (0)) 52 (x).toNatClampNeg (u).toNatClampNeg (1)) (pMix ((100 + x)) (u)))) else (S_X12_isWrong g (2))) else (S_X12_isWrong g (2)))))
theorem FL_X12_join_78 {g : vS} {x : Int32} {u : Int32} {c i j : Nat} (h1 : c ≠ 1) (h11 : c ≠ 11) (h52 : c ≠ 52) (h73 : c ≠ 73) : ∀ (n : Nat) (a0 : Nat) (a1 : Int32) (a2 : vS), a2 c i j = g c i j → SL_X12_join_78 g x u n a0 a1 a2 c i j = g c i j := by
  intro n
  induction n with
  | zero => intro a0 a1 a2 hq9; exact hq9
  | succ n ih =>
    intro a0 a1 a2 hq9
    simp only [SL_X12_join_78]
    (repeat' split) <;> first | rfl | exact hq9 | (apply ih; first | exact hq9 | rfl | trivial | ((simp only [s3_k h1, s3_k h11, s3_k h52, s3_k h73, F_X12_adds h11 h73, F_X12_isWrong h1]) <;> first | done | exact hq9 | rfl)) | ((simp only [s3_k h1, s3_k h11, s3_k h52, s3_k h73, F_X12_adds h11 h73, F_X12_isWrong h1]) <;> first | done | exact hq9 | rfl)
theorem F_X12_join {g : vS} {x : Int32} {u : Int32} {c i j : Nat} (h1 : c ≠ 1) (h11 : c ≠ 11) (h52 : c ≠ 52) (h73 : c ≠ 73) : S_X12_join g x u c i j = g c i j := by
  unfold S_X12_join
  (repeat' split) <;> first | rfl | (apply FL_X12_join_78 h1 h11 h52 h73; first | rfl | trivial | ((simp only [s3_k h1, s3_k h11, s3_k h52, s3_k h73, F_X12_adds h11 h73, F_X12_isWrong h1]) <;> first | done | rfl)) | ((simp only [s3_k h1, s3_k h11, s3_k h52, s3_k h73, F_X12_adds h11 h73, F_X12_isWrong h1]) <;> first | done | rfl)
set_option maxHeartbeats 4000000 in
set_option maxRecDepth 100000 in
theorem c_X12_join {G : vG} (hG : G.1.stackTraces = false) {A : vN → Nat} {g : vS} {r : vH} (x : Int32) (u : Int32) (hu0 : 0 ≤ (g 2 0 0).toInt) (hu : (g 2 0 0).toInt ≤ 6) (hg0 : 0 ≤ (g 3 0 0).toInt) (hg : (g 3 0 0).toInt ≤ 5) (hf0 : 0 ≤ (g 4 0 0).toInt) (hf : (g 4 0 0).toInt ≤ 20) (hl0 : 0 ≤ (g 11 0 0).toInt) (hl : (g 11 0 0).toInt ≤ 300) : vCt G yX12_join cX12_join 5 (some .int) 2 [.ref (A (40, 0)), .int (x), .int (u)] A (wm g r) (fun v A2 h2 => v = some (.int (V_X12_join g x u)) ∧ A2 = A ∧ h2 = wm (S_X12_join g x u) r) (vNoX) 0 0 := by
  refine v_of hG (by decide +kernel) (Nat.le_of_ble_eq_true rfl) (lv := [(0, .ref (A (40, 0))), (1, .int (x)), (2, .int (u))]) rfl (fun X C hnx => ?_)
  have C : vC G X cX12_join 5 RX12 (some .int) "join" 2 0 0 := C
  refine v_aload_n (pc := 0) C dX12_join_0 0 rfl rfl ?_
  refine v_aload_n (pc := 1) C dX12_join_1 0 rfl rfl ?_
  refine v_iload_n (pc := 2) C dX12_join_2 1 rfl rfl ?_
  refine v_callV (pc := 3) C (40, 0) ck_40 rfl (c_X12_isGroup hG (x) ) 1 wd_1547 wd_68 wd_1544 wd_1546 wd_37 (by decide +kernel) (by decide) (by decide) rfl ([.ref (A (40, 0))]) rfl (Nat.le_of_ble_eq_true rfl) (by decide) dX12_join_3 (fun _ _ _ q => q.elim) (fun v9 A9 h9 hR9 => ?_)
  obtain ⟨rfl, hA9, rfl⟩ := hR9
  obtain rfl := hA9.symm
  refine v_st (k2 := 0) (n2 := 0) (st2 := [.int ((V_X12_isGroup g (x))), .ref (A (40, 0))]) rfl rfl rfl ?_
  have b_1 := ok_isGroup (g := g) (x := x) hg0
  refine v_if_eq (pc := 6) (tgt := 17) C dX12_join_6 (by decide) (fun c_2 => ?_) (fun c_2 => ?_)
  · skip
    refine v_iconst (v := 1) (pc := 17) C dX12_join_17 rfl ?_
    refine v_goto (tgt := 44) (pc := 18) C dX12_join_18 (by decide) ?_
    refine v_callV (pc := 44) C (40, 0) ck_40 rfl (c_X12_isWrong hG (1) ) 1 wd_1531 wd_68 wd_1528 wd_1530 wd_35 (by decide +kernel) (by decide) (by decide) rfl ([]) rfl (Nat.le_of_ble_eq_true rfl) (by decide) dX12_join_44 (fun _ _ _ q => q.elim) (fun v9 A9 h9 hR9 => ?_)
    obtain ⟨rfl, hA9, rfl⟩ := hR9
    obtain rfl := hA9.symm
    refine v_st (k2 := 0) (n2 := 0) (st2 := [.int ((V_X12_isWrong g (1)))]) rfl rfl rfl ?_
    refine v_if_eq (pc := 47) (tgt := 52) C dX12_join_47 (by decide) (fun c_3 => ?_) (fun c_3 => ?_)
    · skip
      exact absurd c_3 (fun q9 => ((show ¬ (1 : Int32) = 0 from by decide)) q9)
    · skip
      refine v_iconst (v := 0) (pc := 50) C dX12_join_50 rfl ?_
      exact v_iret (pc := 51) C (by decide) (by decide) dX12_join_51 ⟨(congrArg (fun q => some (Value.int q)) (by show _ = _; rw [V_X12_join, if_pos c_2])), rfl, (congrArg (fun q => wm q r) (by show _ = _; rw [S_X12_join, if_pos c_2]))⟩
  · skip
    refine v_aload_n (pc := 9) C dX12_join_9 0 rfl rfl ?_
    refine v_iload_n (pc := 10) C dX12_join_10 2 rfl rfl ?_
    refine v_callV (pc := 11) C (40, 0) ck_40 rfl (c_X12_isUser hG (u) ) 1 wd_1539 wd_68 wd_1536 wd_1538 wd_36 (by decide +kernel) (by decide) (by decide) rfl ([.ref (A (40, 0))]) rfl (Nat.le_of_ble_eq_true rfl) (by decide) dX12_join_11 (fun _ _ _ q => q.elim) (fun v9 A9 h9 hR9 => ?_)
    obtain ⟨rfl, hA9, rfl⟩ := hR9
    obtain rfl := hA9.symm
    refine v_st (k2 := 0) (n2 := 0) (st2 := [.int ((V_X12_isUser g (u))), .ref (A (40, 0))]) rfl rfl rfl ?_
    have b_4 := ok_isUser (g := g) (x := u) hu0
    refine v_if_ne (pc := 14) (tgt := 21) C dX12_join_14 (by decide) (fun c_5 => ?_) (fun c_5 => ?_)
    · skip
      refine v_aload_n (pc := 21) C dX12_join_21 0 rfl rfl ?_
      refine v_get (pc := 22) C (40, 0) (v := .ref (A (51, 0))) ck_40 rfl 11 (by decide) inX12 wd_1399 rfl rfl dX12_join_22 ?_
      refine v_iload_n (pc := 25) C dX12_join_25 1 rfl rfl ?_
      refine v_aald (pc := 26) C (51, 0) ck_51 rfl rfl (by (try simp only [Int32.le_iff_toInt_le, Int32.lt_iff_toInt_lt, ← Int32.toInt_inj, vp_in_iff, Int32.reduceToInt] at c_2 c_5 b_1 b_4 hu hg hf hl0 hl ⊢) <;> omega) (52, (x).toNatClampNeg) rfl dX12_join_26 ?_
      refine v_iload_n (pc := 27) C dX12_join_27 2 rfl rfl ?_
      refine v_zald (pc := 28) C (52, (x).toNatClampNeg) (v := (g 52 (x).toNatClampNeg (u).toNatClampNeg)) (ck_52 (g := g) (tn_lt (by (try simp only [Int32.le_iff_toInt_le, Int32.lt_iff_toInt_lt, ← Int32.toInt_inj, Int32.reduceToInt] at c_2 c_5 b_1 b_4 hu hg hf hl0 hl ⊢); omega))) (by (try simp only [Int32.le_iff_toInt_le, Int32.lt_iff_toInt_lt, ← Int32.toInt_inj, vp_in_iff, Int32.reduceToInt] at c_2 c_5 b_1 b_4 hu hg hf hl0 hl ⊢) <;> omega) rfl dX12_join_28 ?_
      refine v_if_ne (pc := 29) (tgt := 39) C dX12_join_29 (by decide) (fun c_6 => ?_) (fun c_6 => ?_)
      · skip
        refine v_iconst (v := 2) (pc := 39) C dX12_join_39 rfl ?_
        refine v_goto (tgt := 44) (pc := 40) C dX12_join_40 (by decide) ?_
        refine v_callV (pc := 44) C (40, 0) ck_40 rfl (c_X12_isWrong hG (2) ) 1 wd_1531 wd_68 wd_1528 wd_1530 wd_35 (by decide +kernel) (by decide) (by decide) rfl ([]) rfl (Nat.le_of_ble_eq_true rfl) (by decide) dX12_join_44 (fun _ _ _ q => q.elim) (fun v9 A9 h9 hR9 => ?_)
        obtain ⟨rfl, hA9, rfl⟩ := hR9
        obtain rfl := hA9.symm
        refine v_st (k2 := 0) (n2 := 0) (st2 := [.int ((V_X12_isWrong g (2)))]) rfl rfl rfl ?_
        refine v_if_eq (pc := 47) (tgt := 52) C dX12_join_47 (by decide) (fun c_7 => ?_) (fun c_7 => ?_)
        · skip
          exact absurd c_7 (fun q9 => ((show ¬ (1 : Int32) = 0 from by decide)) q9)
        · skip
          refine v_iconst (v := 0) (pc := 50) C dX12_join_50 rfl ?_
          exact v_iret (pc := 51) C (by decide) (by decide) dX12_join_51 ⟨(congrArg (fun q => some (Value.int q)) (by show _ = _; rw [V_X12_join, if_neg c_2, if_neg c_5, if_neg c_6])), rfl, (congrArg (fun q => wm q r) (by show _ = _; rw [S_X12_join, if_neg c_2, if_neg c_5, if_neg c_6]))⟩
      · skip
        refine v_aload_n (pc := 32) C dX12_join_32 0 rfl rfl ?_
        refine v_callV (pc := 33) C (40, 0) ck_40 rfl (c_X12_isFull hG  ) 0 wd_1551 wd_68 wd_1548 wd_1550 wd_38 (by decide +kernel) (by decide) (by decide) rfl ([.ref (A (40, 0))]) rfl (Nat.le_of_ble_eq_true rfl) (by decide) dX12_join_33 (fun _ _ _ q => q.elim) (fun v9 A9 h9 hR9 => ?_)
        obtain ⟨rfl, hA9, rfl⟩ := hR9
        obtain rfl := hA9.symm
        refine v_st (k2 := 0) (n2 := 0) (st2 := [.int ((V_X12_isFull g)), .ref (A (40, 0))]) rfl rfl rfl ?_
        have b_8 := ok_isFull (g := g)
        refine v_if_eq (pc := 36) (tgt := 43) C dX12_join_36 (by decide) (fun c_9 => ?_) (fun c_9 => ?_)
        · skip
          refine v_iconst (v := 0) (pc := 43) C dX12_join_43 rfl ?_
          refine v_callV (pc := 44) C (40, 0) ck_40 rfl (c_X12_isWrong hG (0) ) 1 wd_1531 wd_68 wd_1528 wd_1530 wd_35 (by decide +kernel) (by decide) (by decide) rfl ([]) rfl (Nat.le_of_ble_eq_true rfl) (by decide) dX12_join_44 (fun _ _ _ q => q.elim) (fun v9 A9 h9 hR9 => ?_)
          obtain ⟨rfl, hA9, rfl⟩ := hR9
          obtain rfl := hA9.symm
          refine v_st (k2 := 0) (n2 := 0) (st2 := [.int ((V_X12_isWrong g (0)))]) rfl rfl rfl ?_
          refine v_if_eq (pc := 47) (tgt := 52) C dX12_join_47 (by decide) (fun c_10 => ?_) (fun c_10 => ?_)
          · skip
            refine v_aload_n (pc := 52) C dX12_join_52 0 rfl rfl ?_
            refine v_get (pc := 53) C (40, 0) (v := .ref (A (51, 0))) ck_40 rfl 11 (by decide) inX12 wd_1399 rfl rfl dX12_join_53 ?_
            refine v_iload_n (pc := 56) C dX12_join_56 1 rfl rfl ?_
            refine v_aald (pc := 57) C (51, 0) ck_51 rfl rfl (by (try simp only [Int32.le_iff_toInt_le, Int32.lt_iff_toInt_lt, ← Int32.toInt_inj, vp_in_iff, Int32.reduceToInt] at c_2 c_5 c_6 c_9 c_10 b_1 b_4 b_8 hu hg hf hl0 hl ⊢) <;> omega) (52, (x).toNatClampNeg) rfl dX12_join_57 ?_
            refine v_iload_n (pc := 58) C dX12_join_58 2 rfl rfl ?_
            refine v_iconst (v := 1) (pc := 59) C dX12_join_59 rfl ?_
            refine v_zast (pc := 60) C (52, (x).toNatClampNeg) (x := 1) (ck_52 (g := (S_X12_isWrong g (0))) (tn_lt (by (try simp only [Int32.le_iff_toInt_le, Int32.lt_iff_toInt_lt, ← Int32.toInt_inj, Int32.reduceToInt] at c_2 c_5 c_6 c_9 c_10 b_1 b_4 b_8 hu hg hf hl0 hl ⊢); omega))) (by (try simp only [Int32.le_iff_toInt_le, Int32.lt_iff_toInt_lt, ← Int32.toInt_inj, vp_in_iff, Int32.reduceToInt] at c_2 c_5 c_6 c_9 c_10 b_1 b_4 b_8 hu hg hf hl0 hl ⊢) <;> omega) (by decide) dX12_join_60 ?_
            refine v_h (h2 := (wm (s3 (S_X12_isWrong g (0)) 52 (x).toNatClampNeg (u).toNatClampNeg (1)) r)) (u_52_a (g := (S_X12_isWrong g (0))) (tn_lt (by (try simp only [Int32.le_iff_toInt_le, Int32.lt_iff_toInt_lt, ← Int32.toInt_inj, Int32.reduceToInt] at c_2 c_5 c_6 c_9 c_10 b_1 b_4 b_8 hu hg hf hl0 hl ⊢); omega))) ?_
            refine v_aload_n (pc := 61) C dX12_join_61 0 rfl rfl ?_
            refine v_bipush (v := 100) (pc := 62) C dX12_join_62 (by decide) ?_
            refine v_iload_n (pc := 64) C dX12_join_64 1 rfl rfl ?_
            refine v_iadd (pc := 65) C dX12_join_65 ?_
            refine v_iload_n (pc := 66) C dX12_join_66 2 rfl rfl ?_
            refine v_callS (pc := 67) C (c_X12_mix hG ((100 + x)) (u)) 2 wd_1554 wd_68 wd_1552 wd_1553 (by decide +kernel) (by decide) (by decide) rfl ([.ref (A (40, 0))]) rfl (Nat.le_of_ble_eq_true rfl) (by decide) dX12_join_67 (fun _ _ _ q => q.elim) (fun v9 A9 h9 hR9 => ?_)
            obtain ⟨rfl, hA9, rfl⟩ := hR9
            obtain rfl := hA9.symm
            refine v_st (k2 := 0) (n2 := 0) (st2 := [.int (pMix ((100 + x)) (u)), .ref (A (40, 0))]) rfl rfl rfl ?_
            refine v_callV (pc := 70) C (40, 0) ck_40 rfl (c_X12_adds hG (pMix ((100 + x)) (u)) (by rw [show (s3 (S_X12_isWrong g (0)) 52 (x).toNatClampNeg (u).toNatClampNeg (1)) 2 0 0 = g 2 0 0 from (s3_k (by decide)).trans (F_X12_isWrong (by decide))]; exact hu0) (by rw [show (s3 (S_X12_isWrong g (0)) 52 (x).toNatClampNeg (u).toNatClampNeg (1)) 2 0 0 = g 2 0 0 from (s3_k (by decide)).trans (F_X12_isWrong (by decide))]; exact hu) (by rw [show (s3 (S_X12_isWrong g (0)) 52 (x).toNatClampNeg (u).toNatClampNeg (1)) 3 0 0 = g 3 0 0 from (s3_k (by decide)).trans (F_X12_isWrong (by decide))]; exact hg0) (by rw [show (s3 (S_X12_isWrong g (0)) 52 (x).toNatClampNeg (u).toNatClampNeg (1)) 3 0 0 = g 3 0 0 from (s3_k (by decide)).trans (F_X12_isWrong (by decide))]; exact hg) (by rw [show (s3 (S_X12_isWrong g (0)) 52 (x).toNatClampNeg (u).toNatClampNeg (1)) 4 0 0 = g 4 0 0 from (s3_k (by decide)).trans (F_X12_isWrong (by decide))]; exact hf0) (by rw [show (s3 (S_X12_isWrong g (0)) 52 (x).toNatClampNeg (u).toNatClampNeg (1)) 4 0 0 = g 4 0 0 from (s3_k (by decide)).trans (F_X12_isWrong (by decide))]; exact hf) (by rw [show (s3 (S_X12_isWrong g (0)) 52 (x).toNatClampNeg (u).toNatClampNeg (1)) 11 0 0 = g 11 0 0 from (s3_k (by decide)).trans (F_X12_isWrong (by decide))]; exact hl0) (by (try simp only [Int32.le_iff_toInt_le, Int32.lt_iff_toInt_lt, ← Int32.toInt_inj, Int32.reduceToInt] at c_2 c_5 c_6 c_9 c_10 b_1 b_4 b_8 hu hg hf hl0 hl); rw [show (s3 (S_X12_isWrong g (0)) 52 (x).toNatClampNeg (u).toNatClampNeg (1)) 11 0 0 = g 11 0 0 from (s3_k (by decide)).trans (F_X12_isWrong (by decide))]; omega)) 1 wd_1562 wd_68 wd_1559 wd_1561 wd_39 (by decide +kernel) (by decide) (by decide) rfl ([]) rfl (Nat.le_of_ble_eq_true rfl) (by decide) dX12_join_70 (fun _ _ _ q => q.elim) (fun v9 A9 h9 hR9 => ?_)
            obtain ⟨rfl, hA9, rfl⟩ := hR9
            obtain rfl := hA9.symm
            refine v_st (k2 := 0) (n2 := 0) (st2 := []) rfl rfl rfl ?_
            refine v_iconst (v := 0) (pc := 73) C dX12_join_73 rfl ?_
            refine v_istore_n (lv2 := [(3, .int (0)), (0, .ref (A (40, 0))), (1, .int (x)), (2, .int (u))]) (pc := 74) C dX12_join_74 rfl (by decide) rfl ?_
            refine v_iconst (v := 0) (pc := 75) C dX12_join_75 rfl ?_
            refine v_istore (lv2 := [(4, .int (0)), (3, .int (0)), (0, .ref (A (40, 0))), (1, .int (x)), (2, .int (u))]) (pc := 76) C dX12_join_76 (by decide) rfl ?_
            have L_78 : ∀ (n : Nat) (i_78 : Nat) (x_78_3 : Int32) (q_78 : vS), i_78 ≤ 6 → 6 + 1 ≤ i_78 + n → (∀ (c i j : Nat), c ≠ 1 → c ≠ 11 → c ≠ 52 → c ≠ 73 → q_78 c i j = g c i j) → (V_X12_join g x u) = VL_X12_join_78 g x u n i_78 x_78_3 q_78 → (S_X12_join g x u) = SL_X12_join_78 g x u n i_78 x_78_3 q_78 → V G 5 X A (wm q_78 r) 0 0 (vM G X (fun v A2 h2 => v = some (.int (V_X12_join g x u)) ∧ A2 = A ∧ h2 = wm (S_X12_join g x u) r) (vNoX) 0 0) 78 [(4, .int (nI i_78)), (3, .int (x_78_3)), (0, .ref (A (40, 0))), (1, .int (x)), (2, .int (u))] [] := by
              intro n
              induction n with
              | zero => intro i_78 x_78_3 q_78 hi_78 hc_78 hF_78 eV_78 eS_78; exact absurd hc_78 (by omega)
              | succ n ih =>
                intro i_78 x_78_3 q_78 hi_78 hc_78 hF_78 eV_78 eS_78
                have hq_78 : (nI i_78).toInt = (i_78 : Int) := nI_toInt (by omega)
                have hr_78 : (nI (i_78 + 1)).toInt = ((i_78 + 1 : Nat) : Int) := nI_toInt (by omega)
                refine v_iload (pc := 78) C dX12_join_78 0 rfl ?_
                refine v_bipush (v := 6) (pc := 80) C dX12_join_80 (by decide) ?_
                refine v_icmp_ge (pc := 82) (tgt := 111) C dX12_join_82 (by decide) (fun c_11 => ?_) (fun c_11 => ?_)
                · skip
                  refine v_iload_n (pc := 111) C dX12_join_111 1 rfl rfl ?_
                  exact v_iret (pc := 112) C (by decide) (by decide) dX12_join_112 ⟨(congrArg (fun q => some (Value.int q)) (by show _ = _; rw [eV_78, VL_X12_join_78, if_pos c_11])), rfl, (congrArg (fun q => wm q r) (by show _ = _; rw [eS_78, SL_X12_join_78, if_pos c_11]))⟩
                · skip
                  refine v_iload_n (pc := 85) C dX12_join_85 1 rfl rfl ?_
                  refine v_aload_n (pc := 86) C dX12_join_86 2 rfl rfl ?_
                  refine v_get (pc := 87) C (40, 0) (v := .ref (A (51, 0))) ck_40 rfl 11 (by decide) inX12 wd_1399 rfl rfl dX12_join_87 ?_
                  refine v_iload_n (pc := 90) C dX12_join_90 3 rfl rfl ?_
                  refine v_aald (pc := 91) C (51, 0) ck_51 rfl rfl (by (try simp only [Int32.le_iff_toInt_le, Int32.lt_iff_toInt_lt, ← Int32.toInt_inj, vp_in_iff, Int32.reduceToInt] at c_2 c_5 c_6 c_9 c_10 c_11 b_1 b_4 b_8 hq_78 hr_78 hu hg hf hl0 hl ⊢) <;> omega) (52, (x).toNatClampNeg) rfl dX12_join_91 ?_
                  refine v_iload (pc := 92) C dX12_join_92 0 rfl ?_
                  refine v_zald (pc := 94) C (52, (x).toNatClampNeg) (v := (q_78 52 (x).toNatClampNeg i_78)) (ck_52 (g := q_78) (tn_lt (by (try simp only [Int32.le_iff_toInt_le, Int32.lt_iff_toInt_lt, ← Int32.toInt_inj, Int32.reduceToInt] at c_2 c_5 c_6 c_9 c_10 c_11 b_1 b_4 b_8 hq_78 hr_78 hu hg hf hl0 hl ⊢); omega))) (by (try simp only [Int32.le_iff_toInt_le, Int32.lt_iff_toInt_lt, ← Int32.toInt_inj, vp_in_iff, Int32.reduceToInt] at c_2 c_5 c_6 c_9 c_10 c_11 b_1 b_4 b_8 hq_78 hr_78 hu hg hf hl0 hl ⊢) <;> omega) ((congrArg (fun k => q_78 52 (x).toNatClampNeg k) (show (nI i_78 : Int32).toNatClampNeg = i_78 from (nI_clamp (by omega)))).trans rfl) dX12_join_94 ?_
                  refine v_if_eq (pc := 95) (tgt := 102) C dX12_join_95 (by decide) (fun c_12 => ?_) (fun c_12 => ?_)
                  · skip
                    refine v_iconst (v := 0) (pc := 102) C dX12_join_102 rfl ?_
                    refine v_iadd (pc := 103) C dX12_join_103 ?_
                    refine v_istore_n (lv2 := [(3, .int ((x_78_3 + 0))), (4, .int (nI i_78)), (0, .ref (A (40, 0))), (1, .int (x)), (2, .int (u))]) (pc := 104) C dX12_join_104 rfl (by decide) rfl ?_
                    refine v_iinc (v := nI (i_78 + 1)) (lv2 := [(4, .int (nI (i_78 + 1))), (3, .int ((x_78_3 + 0))), (0, .ref (A (40, 0))), (1, .int (x)), (2, .int (u))]) (pc := 105) C dX12_join_105 1 rfl (nI_1 _) (by decide) rfl ?_
                    refine v_goto (tgt := 78) (pc := 108) C dX12_join_108 (by decide) ?_
                    refine v_lv (lv2 := [(4, .int (nI (i_78 + 1))), (3, .int ((x_78_3 + 0))), (0, .ref (A (40, 0))), (1, .int (x)), (2, .int (u))]) [0, 1, 2, 3, 4] rfl ?_
                    exact ih (i_78 + 1) ((x_78_3 + 0)) q_78 (by (try simp only [Int32.le_iff_toInt_le, Int32.lt_iff_toInt_lt, ← Int32.toInt_inj, vp_in_iff, Int32.reduceToInt] at c_2 c_5 c_6 c_9 c_10 c_11 c_12 b_1 b_4 b_8 hq_78 hr_78 hu hg hf hl0 hl ⊢) <;> omega) (by omega) (fun c i j h1 h11 h52 h73 => hF_78 c i j h1 h11 h52 h73) (by rw [eV_78, VL_X12_join_78, if_neg c_11, if_pos c_12]) (by rw [eS_78, SL_X12_join_78, if_neg c_11, if_pos c_12])
                  · skip
                    refine v_iconst (v := 1) (pc := 98) C dX12_join_98 rfl ?_
                    refine v_goto (tgt := 103) (pc := 99) C dX12_join_99 (by decide) ?_
                    refine v_iadd (pc := 103) C dX12_join_103 ?_
                    refine v_istore_n (lv2 := [(3, .int ((x_78_3 + 1))), (4, .int (nI i_78)), (0, .ref (A (40, 0))), (1, .int (x)), (2, .int (u))]) (pc := 104) C dX12_join_104 rfl (by decide) rfl ?_
                    refine v_iinc (v := nI (i_78 + 1)) (lv2 := [(4, .int (nI (i_78 + 1))), (3, .int ((x_78_3 + 1))), (0, .ref (A (40, 0))), (1, .int (x)), (2, .int (u))]) (pc := 105) C dX12_join_105 1 rfl (nI_1 _) (by decide) rfl ?_
                    refine v_goto (tgt := 78) (pc := 108) C dX12_join_108 (by decide) ?_
                    refine v_lv (lv2 := [(4, .int (nI (i_78 + 1))), (3, .int ((x_78_3 + 1))), (0, .ref (A (40, 0))), (1, .int (x)), (2, .int (u))]) [0, 1, 2, 3, 4] rfl ?_
                    exact ih (i_78 + 1) ((x_78_3 + 1)) q_78 (by (try simp only [Int32.le_iff_toInt_le, Int32.lt_iff_toInt_lt, ← Int32.toInt_inj, vp_in_iff, Int32.reduceToInt] at c_2 c_5 c_6 c_9 c_10 c_11 c_12 b_1 b_4 b_8 hq_78 hr_78 hu hg hf hl0 hl ⊢) <;> omega) (by omega) (fun c i j h1 h11 h52 h73 => hF_78 c i j h1 h11 h52 h73) (by rw [eV_78, VL_X12_join_78, if_neg c_11, if_neg c_12]) (by rw [eS_78, SL_X12_join_78, if_neg c_11, if_neg c_12])
            exact L_78 (6 + 1) 0 (0) (S_X12_adds (s3 (S_X12_isWrong g (0)) 52 (x).toNatClampNeg (u).toNatClampNeg (1)) (pMix ((100 + x)) (u))) (by omega) (by omega) (fun c i j h1 h11 h52 h73 => (F_X12_adds h11 h73).trans ((s3_k h52).trans (F_X12_isWrong h1))) (by rw [V_X12_join, if_neg c_2, if_neg c_5, if_pos c_6, if_pos c_9]) (by rw [S_X12_join, if_neg c_2, if_neg c_5, if_pos c_6, if_pos c_9])
          · skip
            exact absurd c_10 (fun q9 => q9 ((show (0 : Int32) = 0 from rfl)))
        · skip
          refine v_iconst (v := 2) (pc := 39) C dX12_join_39 rfl ?_
          refine v_goto (tgt := 44) (pc := 40) C dX12_join_40 (by decide) ?_
          refine v_callV (pc := 44) C (40, 0) ck_40 rfl (c_X12_isWrong hG (2) ) 1 wd_1531 wd_68 wd_1528 wd_1530 wd_35 (by decide +kernel) (by decide) (by decide) rfl ([]) rfl (Nat.le_of_ble_eq_true rfl) (by decide) dX12_join_44 (fun _ _ _ q => q.elim) (fun v9 A9 h9 hR9 => ?_)
          obtain ⟨rfl, hA9, rfl⟩ := hR9
          obtain rfl := hA9.symm
          refine v_st (k2 := 0) (n2 := 0) (st2 := [.int ((V_X12_isWrong g (2)))]) rfl rfl rfl ?_
          refine v_if_eq (pc := 47) (tgt := 52) C dX12_join_47 (by decide) (fun c_13 => ?_) (fun c_13 => ?_)
          · skip
            exact absurd c_13 (fun q9 => ((show ¬ (1 : Int32) = 0 from by decide)) q9)
          · skip
            refine v_iconst (v := 0) (pc := 50) C dX12_join_50 rfl ?_
            exact v_iret (pc := 51) C (by decide) (by decide) dX12_join_51 ⟨(congrArg (fun q => some (Value.int q)) (by show _ = _; rw [V_X12_join, if_neg c_2, if_neg c_5, if_pos c_6, if_neg c_9])), rfl, (congrArg (fun q => wm q r) (by show _ = _; rw [S_X12_join, if_neg c_2, if_neg c_5, if_pos c_6, if_neg c_9]))⟩
    · skip
      refine v_iconst (v := 1) (pc := 17) C dX12_join_17 rfl ?_
      refine v_goto (tgt := 44) (pc := 18) C dX12_join_18 (by decide) ?_
      refine v_callV (pc := 44) C (40, 0) ck_40 rfl (c_X12_isWrong hG (1) ) 1 wd_1531 wd_68 wd_1528 wd_1530 wd_35 (by decide +kernel) (by decide) (by decide) rfl ([]) rfl (Nat.le_of_ble_eq_true rfl) (by decide) dX12_join_44 (fun _ _ _ q => q.elim) (fun v9 A9 h9 hR9 => ?_)
      obtain ⟨rfl, hA9, rfl⟩ := hR9
      obtain rfl := hA9.symm
      refine v_st (k2 := 0) (n2 := 0) (st2 := [.int ((V_X12_isWrong g (1)))]) rfl rfl rfl ?_
      refine v_if_eq (pc := 47) (tgt := 52) C dX12_join_47 (by decide) (fun c_14 => ?_) (fun c_14 => ?_)
      · skip
        exact absurd c_14 (fun q9 => ((show ¬ (1 : Int32) = 0 from by decide)) q9)
      · skip
        refine v_iconst (v := 0) (pc := 50) C dX12_join_50 rfl ?_
        exact v_iret (pc := 51) C (by decide) (by decide) dX12_join_51 ⟨(congrArg (fun q => some (Value.int q)) (by show _ = _; rw [V_X12_join, if_neg c_2, if_pos c_5])), rfl, (congrArg (fun q => wm q r) (by show _ = _; rw [S_X12_join, if_neg c_2, if_pos c_5]))⟩
def V_X12_addFile (g : vS) (x : Int32) (u : Int32) : Int32 := (if (V_X12_isGroup g (x)) = 0 then 0 else (if (V_X12_isUser g (u)) = 0 then 0 else (if (g 52 (x).toNatClampNeg (u).toNatClampNeg) = 0 then 0 else (if (g 4 0 0) = 20 then 0 else (((g 4 0 0) + 1) - 1)))))
def S_X12_addFile (g : vS) (x : Int32) (u : Int32) : vS := (if (V_X12_isGroup g (x)) = 0 then (S_X12_isWrong g (1)) else (if (V_X12_isUser g (u)) = 0 then (S_X12_isWrong g (1)) else (if (g 52 (x).toNatClampNeg (u).toNatClampNeg) = 0 then (S_X12_isWrong g (2)) else (if (g 4 0 0) = 20 then (S_X12_isWrong g (3)) else (s3 (s3 (s3 (s3 (S_X12_isWrong g (0)) 55 ((g 4 0 0)).toNatClampNeg 0 (x)) 59 ((g 4 0 0)).toNatClampNeg 0 ((g 50 (x).toNatClampNeg 0))) 57 ((g 4 0 0)).toNatClampNeg 0 (pMix (6) ((g 4 0 0)))) 4 0 0 (((g 4 0 0) + 1)))))))
theorem F_X12_addFile {g : vS} {x : Int32} {u : Int32} {c i j : Nat} (h1 : c ≠ 1) (h4 : c ≠ 4) (h55 : c ≠ 55) (h57 : c ≠ 57) (h59 : c ≠ 59) : S_X12_addFile g x u c i j = g c i j := by
  unfold S_X12_addFile
  (repeat' split) <;> first | rfl | ((simp only [s3_k h1, s3_k h4, s3_k h55, s3_k h57, s3_k h59, F_X12_isWrong h1]) <;> first | done | rfl)
set_option maxHeartbeats 4000000 in
set_option maxRecDepth 100000 in
theorem c_X12_addFile {G : vG} (hG : G.1.stackTraces = false) {A : vN → Nat} {g : vS} {r : vH} (x : Int32) (u : Int32) (hu0 : 0 ≤ (g 2 0 0).toInt) (hu : (g 2 0 0).toInt ≤ 6) (hg0 : 0 ≤ (g 3 0 0).toInt) (hg : (g 3 0 0).toInt ≤ 5) (hf0 : 0 ≤ (g 4 0 0).toInt) (hf : (g 4 0 0).toInt ≤ 20) (h1 : vM1 g) (h2 : vM2 g) (h3 : vM3 g) : vCt G yX12_addFile cX12_addFile 3 (some .int) 2 [.ref (A (40, 0)), .int (x), .int (u)] A (wm g r) (fun v A2 h2 => v = some (.int (V_X12_addFile g x u)) ∧ A2 = A ∧ h2 = wm (S_X12_addFile g x u) r) (vNoX) 0 0 := by
  refine v_of hG (by decide +kernel) (Nat.le_of_ble_eq_true rfl) (lv := [(0, .ref (A (40, 0))), (1, .int (x)), (2, .int (u))]) rfl (fun X C hnx => ?_)
  have C : vC G X cX12_addFile 3 RX12 (some .int) "addFile" 2 0 0 := C
  refine v_aload_n (pc := 0) C dX12_addFile_0 0 rfl rfl ?_
  refine v_aload_n (pc := 1) C dX12_addFile_1 0 rfl rfl ?_
  refine v_iload_n (pc := 2) C dX12_addFile_2 1 rfl rfl ?_
  refine v_callV (pc := 3) C (40, 0) ck_40 rfl (c_X12_isGroup hG (x) ) 1 wd_1547 wd_68 wd_1544 wd_1546 wd_37 (by decide +kernel) (by decide) (by decide) rfl ([.ref (A (40, 0))]) rfl (Nat.le_of_ble_eq_true rfl) (by decide) dX12_addFile_3 (fun _ _ _ q => q.elim) (fun v9 A9 h9 hR9 => ?_)
  obtain ⟨rfl, hA9, rfl⟩ := hR9
  obtain rfl := hA9.symm
  refine v_st (k2 := 0) (n2 := 0) (st2 := [.int ((V_X12_isGroup g (x))), .ref (A (40, 0))]) rfl rfl rfl ?_
  have b_1 := ok_isGroup (g := g) (x := x) hg0
  refine v_if_eq (pc := 6) (tgt := 17) C dX12_addFile_6 (by decide) (fun c_2 => ?_) (fun c_2 => ?_)
  · skip
    refine v_iconst (v := 1) (pc := 17) C dX12_addFile_17 rfl ?_
    refine v_goto (tgt := 50) (pc := 18) C dX12_addFile_18 (by decide) ?_
    refine v_callV (pc := 50) C (40, 0) ck_40 rfl (c_X12_isWrong hG (1) ) 1 wd_1531 wd_68 wd_1528 wd_1530 wd_35 (by decide +kernel) (by decide) (by decide) rfl ([]) rfl (Nat.le_of_ble_eq_true rfl) (by decide) dX12_addFile_50 (fun _ _ _ q => q.elim) (fun v9 A9 h9 hR9 => ?_)
    obtain ⟨rfl, hA9, rfl⟩ := hR9
    obtain rfl := hA9.symm
    refine v_st (k2 := 0) (n2 := 0) (st2 := [.int ((V_X12_isWrong g (1)))]) rfl rfl rfl ?_
    refine v_if_eq (pc := 53) (tgt := 58) C dX12_addFile_53 (by decide) (fun c_3 => ?_) (fun c_3 => ?_)
    · skip
      exact absurd c_3 (fun q9 => ((show ¬ (1 : Int32) = 0 from by decide)) q9)
    · skip
      refine v_iconst (v := 0) (pc := 56) C dX12_addFile_56 rfl ?_
      exact v_iret (pc := 57) C (by decide) (by decide) dX12_addFile_57 ⟨(congrArg (fun q => some (Value.int q)) (by show _ = _; rw [V_X12_addFile, if_pos c_2])), rfl, (congrArg (fun q => wm q r) (by show _ = _; rw [S_X12_addFile, if_pos c_2]))⟩
  · skip
    refine v_aload_n (pc := 9) C dX12_addFile_9 0 rfl rfl ?_
    refine v_iload_n (pc := 10) C dX12_addFile_10 2 rfl rfl ?_
    refine v_callV (pc := 11) C (40, 0) ck_40 rfl (c_X12_isUser hG (u) ) 1 wd_1539 wd_68 wd_1536 wd_1538 wd_36 (by decide +kernel) (by decide) (by decide) rfl ([.ref (A (40, 0))]) rfl (Nat.le_of_ble_eq_true rfl) (by decide) dX12_addFile_11 (fun _ _ _ q => q.elim) (fun v9 A9 h9 hR9 => ?_)
    obtain ⟨rfl, hA9, rfl⟩ := hR9
    obtain rfl := hA9.symm
    refine v_st (k2 := 0) (n2 := 0) (st2 := [.int ((V_X12_isUser g (u))), .ref (A (40, 0))]) rfl rfl rfl ?_
    have b_4 := ok_isUser (g := g) (x := u) hu0
    refine v_if_ne (pc := 14) (tgt := 21) C dX12_addFile_14 (by decide) (fun c_5 => ?_) (fun c_5 => ?_)
    · skip
      refine v_aload_n (pc := 21) C dX12_addFile_21 0 rfl rfl ?_
      refine v_get (pc := 22) C (40, 0) (v := .ref (A (51, 0))) ck_40 rfl 11 (by decide) inX12 wd_1399 rfl rfl dX12_addFile_22 ?_
      refine v_iload_n (pc := 25) C dX12_addFile_25 1 rfl rfl ?_
      refine v_aald (pc := 26) C (51, 0) ck_51 rfl rfl (by (try simp only [Int32.le_iff_toInt_le, Int32.lt_iff_toInt_lt, ← Int32.toInt_inj, vp_in_iff, Int32.reduceToInt] at c_2 c_5 b_1 b_4 hu hg hf ⊢) <;> omega) (52, (x).toNatClampNeg) rfl dX12_addFile_26 ?_
      refine v_iload_n (pc := 27) C dX12_addFile_27 2 rfl rfl ?_
      refine v_zald (pc := 28) C (52, (x).toNatClampNeg) (v := (g 52 (x).toNatClampNeg (u).toNatClampNeg)) (ck_52 (g := g) (tn_lt (by (try simp only [Int32.le_iff_toInt_le, Int32.lt_iff_toInt_lt, ← Int32.toInt_inj, Int32.reduceToInt] at c_2 c_5 b_1 b_4 hu hg hf ⊢); omega))) (by (try simp only [Int32.le_iff_toInt_le, Int32.lt_iff_toInt_lt, ← Int32.toInt_inj, vp_in_iff, Int32.reduceToInt] at c_2 c_5 b_1 b_4 hu hg hf ⊢) <;> omega) rfl dX12_addFile_28 ?_
      refine v_if_ne (pc := 29) (tgt := 36) C dX12_addFile_29 (by decide) (fun c_6 => ?_) (fun c_6 => ?_)
      · skip
        refine v_aload_n (pc := 36) C dX12_addFile_36 0 rfl rfl ?_
        refine v_get (pc := 37) C (40, 0) (v := .int ((g 4 0 0))) ck_40 rfl 24 (by decide) inX12 wd_1412 rfl rfl dX12_addFile_37 ?_
        refine v_bipush (v := 20) (pc := 40) C dX12_addFile_40 (by decide) ?_
        refine v_icmp_ne (pc := 42) (tgt := 49) C dX12_addFile_42 (by decide) (fun c_7 => ?_) (fun c_7 => ?_)
        · skip
          refine v_iconst (v := 0) (pc := 49) C dX12_addFile_49 rfl ?_
          refine v_callV (pc := 50) C (40, 0) ck_40 rfl (c_X12_isWrong hG (0) ) 1 wd_1531 wd_68 wd_1528 wd_1530 wd_35 (by decide +kernel) (by decide) (by decide) rfl ([]) rfl (Nat.le_of_ble_eq_true rfl) (by decide) dX12_addFile_50 (fun _ _ _ q => q.elim) (fun v9 A9 h9 hR9 => ?_)
          obtain ⟨rfl, hA9, rfl⟩ := hR9
          obtain rfl := hA9.symm
          refine v_st (k2 := 0) (n2 := 0) (st2 := [.int ((V_X12_isWrong g (0)))]) rfl rfl rfl ?_
          refine v_if_eq (pc := 53) (tgt := 58) C dX12_addFile_53 (by decide) (fun c_8 => ?_) (fun c_8 => ?_)
          · skip
            refine v_aload_n (pc := 58) C dX12_addFile_58 0 rfl rfl ?_
            refine v_get (pc := 59) C (40, 0) (v := .ref (A (55, 0))) ck_40 rfl 15 (by decide) inX12 wd_1403 rfl rfl dX12_addFile_59 ?_
            refine v_aload_n (pc := 62) C dX12_addFile_62 0 rfl rfl ?_
            refine v_get (pc := 63) C (40, 0) (v := .int ((g 4 0 0))) ck_40 rfl 24 (by decide) inX12 wd_1412 rfl (congrArg Value.int (F_X12_isWrong (by decide))) dX12_addFile_63 ?_
            refine v_iload_n (pc := 66) C dX12_addFile_66 1 rfl rfl ?_
            refine v_iast (pc := 67) C (55, 0) (x := x) ck_55 (by (try simp only [Int32.le_iff_toInt_le, Int32.lt_iff_toInt_lt, ← Int32.toInt_inj, vp_in_iff, Int32.reduceToInt] at c_2 c_5 c_6 c_7 c_8 b_1 b_4 hu hg hf ⊢) <;> omega) dX12_addFile_67 ?_
            refine v_h (h2 := (wm (s3 (S_X12_isWrong g (0)) 55 ((g 4 0 0)).toNatClampNeg 0 (x)) r)) (u_55_a) ?_
            refine v_aload_n (pc := 68) C dX12_addFile_68 0 rfl rfl ?_
            refine v_get (pc := 69) C (40, 0) (v := .ref (A (58, 0))) ck_40 rfl 18 (by decide) inX12 wd_1406 rfl rfl dX12_addFile_69 ?_
            refine v_aload_n (pc := 72) C dX12_addFile_72 0 rfl rfl ?_
            refine v_get (pc := 73) C (40, 0) (v := .int ((g 4 0 0))) ck_40 rfl 24 (by decide) inX12 wd_1412 rfl (congrArg Value.int ((s3_k (by decide)).trans (F_X12_isWrong (by decide)))) dX12_addFile_73 ?_
            refine v_aald (pc := 76) C (58, 0) ck_58 rfl rfl (by (try simp only [Int32.le_iff_toInt_le, Int32.lt_iff_toInt_lt, ← Int32.toInt_inj, vp_in_iff, Int32.reduceToInt] at c_2 c_5 c_6 c_7 c_8 b_1 b_4 hu hg hf ⊢) <;> omega) (59, ((g 4 0 0)).toNatClampNeg) rfl dX12_addFile_76 ?_
            have b_9 : 0 ≤ ((s3 (S_X12_isWrong g (0)) 55 ((g 4 0 0)).toNatClampNeg 0 (x)) 56 ((g 4 0 0)).toNatClampNeg 0).toInt ∧ ((s3 (S_X12_isWrong g (0)) 55 ((g 4 0 0)).toNatClampNeg 0 (x)) 56 ((g 4 0 0)).toNatClampNeg 0).toInt < (((s3 (S_X12_isWrong g (0)) 55 ((g 4 0 0)).toNatClampNeg 0 (x)) 13 ((g 4 0 0)).toNatClampNeg 0).toNatClampNeg : Int) := (vM2_k (fun _ _ => (s3_k (by decide)).trans (F_X12_isWrong (by decide))) (fun _ _ => (s3_k (by decide)).trans (F_X12_isWrong (by decide))) h2) ((g 4 0 0)).toNatClampNeg
            refine v_iconst (v := 0) (pc := 77) C dX12_addFile_77 rfl ?_
            refine v_aload_n (pc := 78) C dX12_addFile_78 0 rfl rfl ?_
            refine v_get (pc := 79) C (40, 0) (v := .ref (A (50, 0))) ck_40 rfl 10 (by decide) inX12 wd_1398 rfl rfl dX12_addFile_79 ?_
            refine v_iload_n (pc := 82) C dX12_addFile_82 1 rfl rfl ?_
            refine v_iald (pc := 83) C (50, 0) (v := (g 50 (x).toNatClampNeg 0)) ck_50 (by (try simp only [Int32.le_iff_toInt_le, Int32.lt_iff_toInt_lt, ← Int32.toInt_inj, vp_in_iff, Int32.reduceToInt] at c_2 c_5 c_6 c_7 c_8 b_1 b_4 b_9 hu hg hf ⊢) <;> omega) ((s3_k (by decide)).trans (F_X12_isWrong (by decide))) dX12_addFile_83 ?_
            refine v_iast (pc := 84) C (59, ((g 4 0 0)).toNatClampNeg) (x := (g 50 (x).toNatClampNeg 0)) (ck_59 (g := (s3 (S_X12_isWrong g (0)) 55 ((g 4 0 0)).toNatClampNeg 0 (x))) (tn_lt (by (try simp only [Int32.le_iff_toInt_le, Int32.lt_iff_toInt_lt, ← Int32.toInt_inj, Int32.reduceToInt] at c_2 c_5 c_6 c_7 c_8 b_1 b_4 b_9 hu hg hf ⊢); omega))) (by (try simp only [Int32.le_iff_toInt_le, Int32.lt_iff_toInt_lt, ← Int32.toInt_inj, vp_in_iff, Int32.reduceToInt] at c_2 c_5 c_6 c_7 c_8 b_1 b_4 b_9 hu hg hf ⊢) <;> omega) dX12_addFile_84 ?_
            rw [show (0 : Int32).toNatClampNeg = 0 from (by decide)]
            refine v_h (h2 := (wm (s3 (s3 (S_X12_isWrong g (0)) 55 ((g 4 0 0)).toNatClampNeg 0 (x)) 59 ((g 4 0 0)).toNatClampNeg 0 ((g 50 (x).toNatClampNeg 0))) r)) (u_59_a (g := (s3 (S_X12_isWrong g (0)) 55 ((g 4 0 0)).toNatClampNeg 0 (x))) (tn_lt (by (try simp only [Int32.le_iff_toInt_le, Int32.lt_iff_toInt_lt, ← Int32.toInt_inj, Int32.reduceToInt] at c_2 c_5 c_6 c_7 c_8 b_1 b_4 b_9 hu hg hf ⊢); omega))) ?_
            refine v_aload_n (pc := 85) C dX12_addFile_85 0 rfl rfl ?_
            refine v_get (pc := 86) C (40, 0) (v := .ref (A (57, 0))) ck_40 rfl 17 (by decide) inX12 wd_1405 rfl rfl dX12_addFile_86 ?_
            refine v_aload_n (pc := 89) C dX12_addFile_89 0 rfl rfl ?_
            refine v_get (pc := 90) C (40, 0) (v := .int ((g 4 0 0))) ck_40 rfl 24 (by decide) inX12 wd_1412 rfl (congrArg Value.int ((s3_k (by decide)).trans ((s3_k (by decide)).trans (F_X12_isWrong (by decide))))) dX12_addFile_90 ?_
            refine v_bipush (v := 6) (pc := 93) C dX12_addFile_93 (by decide) ?_
            refine v_aload_n (pc := 95) C dX12_addFile_95 0 rfl rfl ?_
            refine v_get (pc := 96) C (40, 0) (v := .int ((g 4 0 0))) ck_40 rfl 24 (by decide) inX12 wd_1412 rfl (congrArg Value.int ((s3_k (by decide)).trans ((s3_k (by decide)).trans (F_X12_isWrong (by decide))))) dX12_addFile_96 ?_
            refine v_callS (pc := 99) C (c_X12_mix hG (6) ((g 4 0 0))) 2 wd_1554 wd_68 wd_1552 wd_1553 (by decide +kernel) (by decide) (by decide) rfl ([.int ((g 4 0 0)), .ref (A (57, 0))]) rfl (Nat.le_of_ble_eq_true rfl) (by decide) dX12_addFile_99 (fun _ _ _ q => q.elim) (fun v9 A9 h9 hR9 => ?_)
            obtain ⟨rfl, hA9, rfl⟩ := hR9
            obtain rfl := hA9.symm
            refine v_st (k2 := 0) (n2 := 0) (st2 := [.int (pMix (6) ((g 4 0 0))), .int ((g 4 0 0)), .ref (A (57, 0))]) rfl rfl rfl ?_
            refine v_iast (pc := 102) C (57, 0) (x := pMix (6) ((g 4 0 0))) ck_57 (by (try simp only [Int32.le_iff_toInt_le, Int32.lt_iff_toInt_lt, ← Int32.toInt_inj, vp_in_iff, Int32.reduceToInt] at c_2 c_5 c_6 c_7 c_8 b_1 b_4 b_9 hu hg hf ⊢) <;> omega) dX12_addFile_102 ?_
            refine v_h (h2 := (wm (s3 (s3 (s3 (S_X12_isWrong g (0)) 55 ((g 4 0 0)).toNatClampNeg 0 (x)) 59 ((g 4 0 0)).toNatClampNeg 0 ((g 50 (x).toNatClampNeg 0))) 57 ((g 4 0 0)).toNatClampNeg 0 (pMix (6) ((g 4 0 0)))) r)) (u_57_a) ?_
            refine v_aload_n (pc := 103) C dX12_addFile_103 0 rfl rfl ?_
            refine v_dup (pc := 104) C dX12_addFile_104 rfl ?_
            refine v_get (pc := 105) C (40, 0) (v := .int ((g 4 0 0))) ck_40 rfl 24 (by decide) inX12 wd_1412 rfl (congrArg Value.int ((s3_k (by decide)).trans ((s3_k (by decide)).trans ((s3_k (by decide)).trans (F_X12_isWrong (by decide)))))) dX12_addFile_105 ?_
            refine v_iconst (v := 1) (pc := 108) C dX12_addFile_108 rfl ?_
            refine v_iadd (pc := 109) C dX12_addFile_109 ?_
            refine v_put (pc := 110) C (40, 0) (v := .int (((g 4 0 0) + 1))) ck_40 rfl 24 (by decide) inX12 tyX12 tyX12_ok nmX12 wd_1412 rfl (.inl (Value.int (((g 4 0 0) + 1)))) rfl (ty := tyX12 24) (by decide +kernel) rfl rfl (Nat.le_of_ble_eq_true rfl) dX12_addFile_110 ?_
            refine v_h (h2 := (wm (s3 (s3 (s3 (s3 (S_X12_isWrong g (0)) 55 ((g 4 0 0)).toNatClampNeg 0 (x)) 59 ((g 4 0 0)).toNatClampNeg 0 ((g 50 (x).toNatClampNeg 0))) 57 ((g 4 0 0)).toNatClampNeg 0 (pMix (6) ((g 4 0 0)))) 4 0 0 (((g 4 0 0) + 1))) r)) (u_40_24) ?_
            refine v_aload_n (pc := 113) C dX12_addFile_113 0 rfl rfl ?_
            refine v_get (pc := 114) C (40, 0) (v := .int (((g 4 0 0) + 1))) ck_40 rfl 24 (by decide) inX12 wd_1412 rfl (congrArg Value.int (s3_s)) dX12_addFile_114 ?_
            refine v_iconst (v := 1) (pc := 117) C dX12_addFile_117 rfl ?_
            refine v_isub (pc := 118) C dX12_addFile_118 ?_
            exact v_iret (pc := 119) C (by decide) (by decide) dX12_addFile_119 ⟨(congrArg (fun q => some (Value.int q)) (by show _ = _; rw [V_X12_addFile, if_neg c_2, if_neg c_5, if_neg c_6, if_neg c_7])), rfl, (congrArg (fun q => wm q r) (by show _ = _; rw [S_X12_addFile, if_neg c_2, if_neg c_5, if_neg c_6, if_neg c_7]))⟩
          · skip
            exact absurd c_8 (fun q9 => q9 ((show (0 : Int32) = 0 from rfl)))
        · skip
          refine v_iconst (v := 3) (pc := 45) C dX12_addFile_45 rfl ?_
          refine v_goto (tgt := 50) (pc := 46) C dX12_addFile_46 (by decide) ?_
          refine v_callV (pc := 50) C (40, 0) ck_40 rfl (c_X12_isWrong hG (3) ) 1 wd_1531 wd_68 wd_1528 wd_1530 wd_35 (by decide +kernel) (by decide) (by decide) rfl ([]) rfl (Nat.le_of_ble_eq_true rfl) (by decide) dX12_addFile_50 (fun _ _ _ q => q.elim) (fun v9 A9 h9 hR9 => ?_)
          obtain ⟨rfl, hA9, rfl⟩ := hR9
          obtain rfl := hA9.symm
          refine v_st (k2 := 0) (n2 := 0) (st2 := [.int ((V_X12_isWrong g (3)))]) rfl rfl rfl ?_
          refine v_if_eq (pc := 53) (tgt := 58) C dX12_addFile_53 (by decide) (fun c_10 => ?_) (fun c_10 => ?_)
          · skip
            exact absurd c_10 (fun q9 => ((show ¬ (1 : Int32) = 0 from by decide)) q9)
          · skip
            refine v_iconst (v := 0) (pc := 56) C dX12_addFile_56 rfl ?_
            exact v_iret (pc := 57) C (by decide) (by decide) dX12_addFile_57 ⟨(congrArg (fun q => some (Value.int q)) (by show _ = _; rw [V_X12_addFile, if_neg c_2, if_neg c_5, if_neg c_6, if_pos c_7])), rfl, (congrArg (fun q => wm q r) (by show _ = _; rw [S_X12_addFile, if_neg c_2, if_neg c_5, if_neg c_6, if_pos c_7]))⟩
      · skip
        refine v_iconst (v := 2) (pc := 32) C dX12_addFile_32 rfl ?_
        refine v_goto (tgt := 50) (pc := 33) C dX12_addFile_33 (by decide) ?_
        refine v_callV (pc := 50) C (40, 0) ck_40 rfl (c_X12_isWrong hG (2) ) 1 wd_1531 wd_68 wd_1528 wd_1530 wd_35 (by decide +kernel) (by decide) (by decide) rfl ([]) rfl (Nat.le_of_ble_eq_true rfl) (by decide) dX12_addFile_50 (fun _ _ _ q => q.elim) (fun v9 A9 h9 hR9 => ?_)
        obtain ⟨rfl, hA9, rfl⟩ := hR9
        obtain rfl := hA9.symm
        refine v_st (k2 := 0) (n2 := 0) (st2 := [.int ((V_X12_isWrong g (2)))]) rfl rfl rfl ?_
        refine v_if_eq (pc := 53) (tgt := 58) C dX12_addFile_53 (by decide) (fun c_11 => ?_) (fun c_11 => ?_)
        · skip
          exact absurd c_11 (fun q9 => ((show ¬ (1 : Int32) = 0 from by decide)) q9)
        · skip
          refine v_iconst (v := 0) (pc := 56) C dX12_addFile_56 rfl ?_
          exact v_iret (pc := 57) C (by decide) (by decide) dX12_addFile_57 ⟨(congrArg (fun q => some (Value.int q)) (by show _ = _; rw [V_X12_addFile, if_neg c_2, if_neg c_5, if_pos c_6])), rfl, (congrArg (fun q => wm q r) (by show _ = _; rw [S_X12_addFile, if_neg c_2, if_neg c_5, if_pos c_6]))⟩
    · skip
      refine v_iconst (v := 1) (pc := 17) C dX12_addFile_17 rfl ?_
      refine v_goto (tgt := 50) (pc := 18) C dX12_addFile_18 (by decide) ?_
      refine v_callV (pc := 50) C (40, 0) ck_40 rfl (c_X12_isWrong hG (1) ) 1 wd_1531 wd_68 wd_1528 wd_1530 wd_35 (by decide +kernel) (by decide) (by decide) rfl ([]) rfl (Nat.le_of_ble_eq_true rfl) (by decide) dX12_addFile_50 (fun _ _ _ q => q.elim) (fun v9 A9 h9 hR9 => ?_)
      obtain ⟨rfl, hA9, rfl⟩ := hR9
      obtain rfl := hA9.symm
      refine v_st (k2 := 0) (n2 := 0) (st2 := [.int ((V_X12_isWrong g (1)))]) rfl rfl rfl ?_
      refine v_if_eq (pc := 53) (tgt := 58) C dX12_addFile_53 (by decide) (fun c_12 => ?_) (fun c_12 => ?_)
      · skip
        exact absurd c_12 (fun q9 => ((show ¬ (1 : Int32) = 0 from by decide)) q9)
      · skip
        refine v_iconst (v := 0) (pc := 56) C dX12_addFile_56 rfl ?_
        exact v_iret (pc := 57) C (by decide) (by decide) dX12_addFile_57 ⟨(congrArg (fun q => some (Value.int q)) (by show _ = _; rw [V_X12_addFile, if_neg c_2, if_pos c_5])), rfl, (congrArg (fun q => wm q r) (by show _ = _; rw [S_X12_addFile, if_neg c_2, if_pos c_5]))⟩
def VL_X12_foundAt_7 (g : vS) (x : Int32) : Nat → Nat → Int32 → Int32 → Int32
  | 0, _, _, _ => 0
  | n + 1, i_7, x_7_3, x_7_2 => (if x < 0 then (if 0 ≤ x_7_3 then x_7_3 else 0) else (if 0 ≤ x_7_3 then (if 0 ≤ x_7_3 then x_7_3 else 0) else (if 20 ≤ nI i_7 then (if 0 ≤ x_7_3 then x_7_3 else 0) else (if (g 72 i_7 0) = 0 then (if (g 72 i_7 0) = 0 then (VL_X12_foundAt_7 g x n (i_7 + 1) (x_7_3) ((x_7_2 - 0))) else (VL_X12_foundAt_7 g x n (i_7 + 1) (x_7_3) ((x_7_2 - 1)))) else (if x_7_2 = 0 then (if (g 72 i_7 0) = 0 then (VL_X12_foundAt_7 g x n (i_7 + 1) (nI i_7) ((x_7_2 - 0))) else (VL_X12_foundAt_7 g x n (i_7 + 1) (nI i_7) ((x_7_2 - 1)))) else (if (g 72 i_7 0) = 0 then (VL_X12_foundAt_7 g x n (i_7 + 1) (x_7_3) ((x_7_2 - 0))) else (VL_X12_foundAt_7 g x n (i_7 + 1) (x_7_3) ((x_7_2 - 1)))))))))
def SL_X12_foundAt_7 (g : vS) (x : Int32) : Nat → Nat → Int32 → Int32 → vS
  | 0, _, _, _ => g
  | n + 1, i_7, x_7_3, x_7_2 => (if x < 0 then (if 0 ≤ x_7_3 then (S_X12_isWrong g (0)) else (S_X12_isWrong g (1))) else (if 0 ≤ x_7_3 then (if 0 ≤ x_7_3 then (S_X12_isWrong g (0)) else (S_X12_isWrong g (1))) else (if 20 ≤ nI i_7 then (if 0 ≤ x_7_3 then (S_X12_isWrong g (0)) else (S_X12_isWrong g (1))) else (if (g 72 i_7 0) = 0 then (if (g 72 i_7 0) = 0 then (SL_X12_foundAt_7 g x n (i_7 + 1) (x_7_3) ((x_7_2 - 0))) else (SL_X12_foundAt_7 g x n (i_7 + 1) (x_7_3) ((x_7_2 - 1)))) else (if x_7_2 = 0 then (if (g 72 i_7 0) = 0 then (SL_X12_foundAt_7 g x n (i_7 + 1) (nI i_7) ((x_7_2 - 0))) else (SL_X12_foundAt_7 g x n (i_7 + 1) (nI i_7) ((x_7_2 - 1)))) else (if (g 72 i_7 0) = 0 then (SL_X12_foundAt_7 g x n (i_7 + 1) (x_7_3) ((x_7_2 - 0))) else (SL_X12_foundAt_7 g x n (i_7 + 1) (x_7_3) ((x_7_2 - 1)))))))))
def V_X12_foundAt (g : vS) (x : Int32) : Int32 := (VL_X12_foundAt_7 g x (20 + 1) 0 (-1) (x))
def S_X12_foundAt (g : vS) (x : Int32) : vS := (SL_X12_foundAt_7 g x (20 + 1) 0 (-1) (x))
theorem FL_X12_foundAt_7 {g : vS} {x : Int32} {c i j : Nat} (h1 : c ≠ 1) : ∀ (n : Nat) (a0 : Nat) (a1 : Int32) (a2 : Int32), True → SL_X12_foundAt_7 g x n a0 a1 a2 c i j = g c i j := by
  intro n
  induction n with
  | zero => intro a0 a1 a2 hq9; rfl
  | succ n ih =>
    intro a0 a1 a2 hq9
    simp only [SL_X12_foundAt_7]
    (repeat' split) <;> first | rfl | exact hq9 | (apply ih; first | exact hq9 | rfl | trivial | ((simp only [s3_k h1, F_X12_isWrong h1]) <;> first | done | exact hq9 | rfl)) | ((simp only [s3_k h1, F_X12_isWrong h1]) <;> first | done | exact hq9 | rfl)
theorem F_X12_foundAt {g : vS} {x : Int32} {c i j : Nat} (h1 : c ≠ 1) : S_X12_foundAt g x c i j = g c i j := by
  unfold S_X12_foundAt
  (repeat' split) <;> first | rfl | (apply FL_X12_foundAt_7 h1; first | rfl | trivial | ((simp only [s3_k h1, F_X12_isWrong h1]) <;> first | done | rfl)) | ((simp only [s3_k h1, F_X12_isWrong h1]) <;> first | done | rfl)
set_option maxHeartbeats 4000000 in
set_option maxRecDepth 100000 in
theorem c_X12_foundAt {G : vG} (hG : G.1.stackTraces = false) {A : vN → Nat} {g : vS} {r : vH} (x : Int32) (hu0 : 0 ≤ (g 2 0 0).toInt) (hu : (g 2 0 0).toInt ≤ 6) (hg0 : 0 ≤ (g 3 0 0).toInt) (hg : (g 3 0 0).toInt ≤ 5) (hf0 : 0 ≤ (g 4 0 0).toInt) (hf : (g 4 0 0).toInt ≤ 20) : vCt G yX12_foundAt cX12_foundAt 5 (some .int) 1 [.ref (A (40, 0)), .int (x)] A (wm g r) (fun v A2 h2 => v = some (.int (V_X12_foundAt g x)) ∧ A2 = A ∧ h2 = wm (S_X12_foundAt g x) r) (vNoX) 0 0 := by
  refine v_of hG (by decide +kernel) (Nat.le_of_ble_eq_true rfl) (lv := [(0, .ref (A (40, 0))), (1, .int (x))]) rfl (fun X C hnx => ?_)
  have C : vC G X cX12_foundAt 5 RX12 (some .int) "foundAt" 1 0 0 := C
  refine v_iload_n (pc := 0) C dX12_foundAt_0 1 rfl rfl ?_
  refine v_istore_n (lv2 := [(2, .int (x)), (0, .ref (A (40, 0))), (1, .int (x))]) (pc := 1) C dX12_foundAt_1 rfl (by decide) rfl ?_
  refine v_iconst (v := -1) (pc := 2) C dX12_foundAt_2 rfl ?_
  refine v_istore_n (lv2 := [(3, .int (-1)), (2, .int (x)), (0, .ref (A (40, 0))), (1, .int (x))]) (pc := 3) C dX12_foundAt_3 rfl (by decide) rfl ?_
  refine v_iconst (v := 0) (pc := 4) C dX12_foundAt_4 rfl ?_
  refine v_istore (lv2 := [(4, .int (0)), (3, .int (-1)), (2, .int (x)), (0, .ref (A (40, 0))), (1, .int (x))]) (pc := 5) C dX12_foundAt_5 (by decide) rfl ?_
  have L_7 : ∀ (n : Nat) (i_7 : Nat) (x_7_3 : Int32) (x_7_2 : Int32), i_7 ≤ 20 → 20 + 1 ≤ i_7 + n → (V_X12_foundAt g x) = VL_X12_foundAt_7 g x n i_7 x_7_3 x_7_2 → (S_X12_foundAt g x) = SL_X12_foundAt_7 g x n i_7 x_7_3 x_7_2 → V G 5 X A (wm g r) 0 0 (vM G X (fun v A2 h2 => v = some (.int (V_X12_foundAt g x)) ∧ A2 = A ∧ h2 = wm (S_X12_foundAt g x) r) (vNoX) 0 0) 7 [(4, .int (nI i_7)), (3, .int (x_7_3)), (2, .int (x_7_2)), (0, .ref (A (40, 0))), (1, .int (x))] [] := by
    intro n
    induction n with
    | zero => intro i_7 x_7_3 x_7_2 hi_7 hc_7 eV_7 eS_7; exact absurd hc_7 (by omega)
    | succ n ih =>
      intro i_7 x_7_3 x_7_2 hi_7 hc_7 eV_7 eS_7
      have hq_7 : (nI i_7).toInt = (i_7 : Int) := nI_toInt (by omega)
      have hr_7 : (nI (i_7 + 1)).toInt = ((i_7 + 1 : Nat) : Int) := nI_toInt (by omega)
      refine v_iload_n (pc := 7) C dX12_foundAt_7 4 rfl rfl ?_
      refine v_if_lt (pc := 8) (tgt := 63) C dX12_foundAt_8 (by decide) (fun c_1 => ?_) (fun c_1 => ?_)
      · skip
        refine v_aload_n (pc := 63) C dX12_foundAt_63 3 rfl rfl ?_
        refine v_iload_n (pc := 64) C dX12_foundAt_64 1 rfl rfl ?_
        refine v_if_ge (pc := 65) (tgt := 72) C dX12_foundAt_65 (by decide) (fun c_2 => ?_) (fun c_2 => ?_)
        · skip
          refine v_iconst (v := 0) (pc := 72) C dX12_foundAt_72 rfl ?_
          refine v_callV (pc := 73) C (40, 0) ck_40 rfl (c_X12_isWrong hG (0) ) 1 wd_1531 wd_68 wd_1528 wd_1530 wd_35 (by decide +kernel) (by decide) (by decide) rfl ([]) rfl (Nat.le_of_ble_eq_true rfl) (by decide) dX12_foundAt_73 (fun _ _ _ q => q.elim) (fun v9 A9 h9 hR9 => ?_)
          obtain ⟨rfl, hA9, rfl⟩ := hR9
          obtain rfl := hA9.symm
          refine v_st (k2 := 0) (n2 := 0) (st2 := [.int ((V_X12_isWrong g (0)))]) rfl rfl rfl ?_
          refine v_if_eq (pc := 76) (tgt := 83) C dX12_foundAt_76 (by decide) (fun c_3 => ?_) (fun c_3 => ?_)
          · skip
            refine v_iload_n (pc := 83) C dX12_foundAt_83 1 rfl rfl ?_
            exact v_iret (pc := 84) C (by decide) (by decide) dX12_foundAt_84 ⟨(congrArg (fun q => some (Value.int q)) (by show _ = _; rw [eV_7, VL_X12_foundAt_7, if_pos c_1, if_pos c_2])), rfl, (congrArg (fun q => wm q r) (by show _ = _; rw [eS_7, SL_X12_foundAt_7, if_pos c_1, if_pos c_2]))⟩
          · skip
            exact absurd c_3 (fun q9 => q9 ((show (0 : Int32) = 0 from rfl)))
        · skip
          refine v_iconst (v := 1) (pc := 68) C dX12_foundAt_68 rfl ?_
          refine v_goto (tgt := 73) (pc := 69) C dX12_foundAt_69 (by decide) ?_
          refine v_callV (pc := 73) C (40, 0) ck_40 rfl (c_X12_isWrong hG (1) ) 1 wd_1531 wd_68 wd_1528 wd_1530 wd_35 (by decide +kernel) (by decide) (by decide) rfl ([]) rfl (Nat.le_of_ble_eq_true rfl) (by decide) dX12_foundAt_73 (fun _ _ _ q => q.elim) (fun v9 A9 h9 hR9 => ?_)
          obtain ⟨rfl, hA9, rfl⟩ := hR9
          obtain rfl := hA9.symm
          refine v_st (k2 := 0) (n2 := 0) (st2 := [.int ((V_X12_isWrong g (1)))]) rfl rfl rfl ?_
          refine v_if_eq (pc := 76) (tgt := 83) C dX12_foundAt_76 (by decide) (fun c_4 => ?_) (fun c_4 => ?_)
          · skip
            exact absurd c_4 (fun q9 => ((show ¬ (1 : Int32) = 0 from by decide)) q9)
          · skip
            refine v_iconst (v := 0) (pc := 79) C dX12_foundAt_79 rfl ?_
            refine v_goto (tgt := 84) (pc := 80) C dX12_foundAt_80 (by decide) ?_
            exact v_iret (pc := 84) C (by decide) (by decide) dX12_foundAt_84 ⟨(congrArg (fun q => some (Value.int q)) (by show _ = _; rw [eV_7, VL_X12_foundAt_7, if_pos c_1, if_neg c_2])), rfl, (congrArg (fun q => wm q r) (by show _ = _; rw [eS_7, SL_X12_foundAt_7, if_pos c_1, if_neg c_2]))⟩
      · skip
        refine v_iload_n (pc := 11) C dX12_foundAt_11 1 rfl rfl ?_
        refine v_if_ge (pc := 12) (tgt := 63) C dX12_foundAt_12 (by decide) (fun c_5 => ?_) (fun c_5 => ?_)
        · skip
          refine v_aload_n (pc := 63) C dX12_foundAt_63 3 rfl rfl ?_
          refine v_iload_n (pc := 64) C dX12_foundAt_64 1 rfl rfl ?_
          refine v_if_ge (pc := 65) (tgt := 72) C dX12_foundAt_65 (by decide) (fun c_6 => ?_) (fun c_6 => ?_)
          · skip
            refine v_iconst (v := 0) (pc := 72) C dX12_foundAt_72 rfl ?_
            refine v_callV (pc := 73) C (40, 0) ck_40 rfl (c_X12_isWrong hG (0) ) 1 wd_1531 wd_68 wd_1528 wd_1530 wd_35 (by decide +kernel) (by decide) (by decide) rfl ([]) rfl (Nat.le_of_ble_eq_true rfl) (by decide) dX12_foundAt_73 (fun _ _ _ q => q.elim) (fun v9 A9 h9 hR9 => ?_)
            obtain ⟨rfl, hA9, rfl⟩ := hR9
            obtain rfl := hA9.symm
            refine v_st (k2 := 0) (n2 := 0) (st2 := [.int ((V_X12_isWrong g (0)))]) rfl rfl rfl ?_
            refine v_if_eq (pc := 76) (tgt := 83) C dX12_foundAt_76 (by decide) (fun c_7 => ?_) (fun c_7 => ?_)
            · skip
              refine v_iload_n (pc := 83) C dX12_foundAt_83 1 rfl rfl ?_
              exact v_iret (pc := 84) C (by decide) (by decide) dX12_foundAt_84 ⟨(congrArg (fun q => some (Value.int q)) (by show _ = _; rw [eV_7, VL_X12_foundAt_7, if_neg c_1, if_pos c_5, if_pos c_6])), rfl, (congrArg (fun q => wm q r) (by show _ = _; rw [eS_7, SL_X12_foundAt_7, if_neg c_1, if_pos c_5, if_pos c_6]))⟩
            · skip
              exact absurd c_7 (fun q9 => q9 ((show (0 : Int32) = 0 from rfl)))
          · skip
            refine v_iconst (v := 1) (pc := 68) C dX12_foundAt_68 rfl ?_
            refine v_goto (tgt := 73) (pc := 69) C dX12_foundAt_69 (by decide) ?_
            refine v_callV (pc := 73) C (40, 0) ck_40 rfl (c_X12_isWrong hG (1) ) 1 wd_1531 wd_68 wd_1528 wd_1530 wd_35 (by decide +kernel) (by decide) (by decide) rfl ([]) rfl (Nat.le_of_ble_eq_true rfl) (by decide) dX12_foundAt_73 (fun _ _ _ q => q.elim) (fun v9 A9 h9 hR9 => ?_)
            obtain ⟨rfl, hA9, rfl⟩ := hR9
            obtain rfl := hA9.symm
            refine v_st (k2 := 0) (n2 := 0) (st2 := [.int ((V_X12_isWrong g (1)))]) rfl rfl rfl ?_
            refine v_if_eq (pc := 76) (tgt := 83) C dX12_foundAt_76 (by decide) (fun c_8 => ?_) (fun c_8 => ?_)
            · skip
              exact absurd c_8 (fun q9 => ((show ¬ (1 : Int32) = 0 from by decide)) q9)
            · skip
              refine v_iconst (v := 0) (pc := 79) C dX12_foundAt_79 rfl ?_
              refine v_goto (tgt := 84) (pc := 80) C dX12_foundAt_80 (by decide) ?_
              exact v_iret (pc := 84) C (by decide) (by decide) dX12_foundAt_84 ⟨(congrArg (fun q => some (Value.int q)) (by show _ = _; rw [eV_7, VL_X12_foundAt_7, if_neg c_1, if_pos c_5, if_neg c_6])), rfl, (congrArg (fun q => wm q r) (by show _ = _; rw [eS_7, SL_X12_foundAt_7, if_neg c_1, if_pos c_5, if_neg c_6]))⟩
        · skip
          refine v_iload (pc := 15) C dX12_foundAt_15 0 rfl ?_
          refine v_bipush (v := 20) (pc := 17) C dX12_foundAt_17 (by decide) ?_
          refine v_icmp_ge (pc := 19) (tgt := 63) C dX12_foundAt_19 (by decide) (fun c_9 => ?_) (fun c_9 => ?_)
          · skip
            refine v_aload_n (pc := 63) C dX12_foundAt_63 3 rfl rfl ?_
            refine v_iload_n (pc := 64) C dX12_foundAt_64 1 rfl rfl ?_
            refine v_if_ge (pc := 65) (tgt := 72) C dX12_foundAt_65 (by decide) (fun c_10 => ?_) (fun c_10 => ?_)
            · skip
              refine v_iconst (v := 0) (pc := 72) C dX12_foundAt_72 rfl ?_
              refine v_callV (pc := 73) C (40, 0) ck_40 rfl (c_X12_isWrong hG (0) ) 1 wd_1531 wd_68 wd_1528 wd_1530 wd_35 (by decide +kernel) (by decide) (by decide) rfl ([]) rfl (Nat.le_of_ble_eq_true rfl) (by decide) dX12_foundAt_73 (fun _ _ _ q => q.elim) (fun v9 A9 h9 hR9 => ?_)
              obtain ⟨rfl, hA9, rfl⟩ := hR9
              obtain rfl := hA9.symm
              refine v_st (k2 := 0) (n2 := 0) (st2 := [.int ((V_X12_isWrong g (0)))]) rfl rfl rfl ?_
              refine v_if_eq (pc := 76) (tgt := 83) C dX12_foundAt_76 (by decide) (fun c_11 => ?_) (fun c_11 => ?_)
              · skip
                refine v_iload_n (pc := 83) C dX12_foundAt_83 1 rfl rfl ?_
                exact v_iret (pc := 84) C (by decide) (by decide) dX12_foundAt_84 ⟨(congrArg (fun q => some (Value.int q)) (by show _ = _; rw [eV_7, VL_X12_foundAt_7, if_neg c_1, if_neg c_5, if_pos c_9, if_pos c_10])), rfl, (congrArg (fun q => wm q r) (by show _ = _; rw [eS_7, SL_X12_foundAt_7, if_neg c_1, if_neg c_5, if_pos c_9, if_pos c_10]))⟩
              · skip
                exact absurd c_11 (fun q9 => q9 ((show (0 : Int32) = 0 from rfl)))
            · skip
              refine v_iconst (v := 1) (pc := 68) C dX12_foundAt_68 rfl ?_
              refine v_goto (tgt := 73) (pc := 69) C dX12_foundAt_69 (by decide) ?_
              refine v_callV (pc := 73) C (40, 0) ck_40 rfl (c_X12_isWrong hG (1) ) 1 wd_1531 wd_68 wd_1528 wd_1530 wd_35 (by decide +kernel) (by decide) (by decide) rfl ([]) rfl (Nat.le_of_ble_eq_true rfl) (by decide) dX12_foundAt_73 (fun _ _ _ q => q.elim) (fun v9 A9 h9 hR9 => ?_)
              obtain ⟨rfl, hA9, rfl⟩ := hR9
              obtain rfl := hA9.symm
              refine v_st (k2 := 0) (n2 := 0) (st2 := [.int ((V_X12_isWrong g (1)))]) rfl rfl rfl ?_
              refine v_if_eq (pc := 76) (tgt := 83) C dX12_foundAt_76 (by decide) (fun c_12 => ?_) (fun c_12 => ?_)
              · skip
                exact absurd c_12 (fun q9 => ((show ¬ (1 : Int32) = 0 from by decide)) q9)
              · skip
                refine v_iconst (v := 0) (pc := 79) C dX12_foundAt_79 rfl ?_
                refine v_goto (tgt := 84) (pc := 80) C dX12_foundAt_80 (by decide) ?_
                exact v_iret (pc := 84) C (by decide) (by decide) dX12_foundAt_84 ⟨(congrArg (fun q => some (Value.int q)) (by show _ = _; rw [eV_7, VL_X12_foundAt_7, if_neg c_1, if_neg c_5, if_pos c_9, if_neg c_10])), rfl, (congrArg (fun q => wm q r) (by show _ = _; rw [eS_7, SL_X12_foundAt_7, if_neg c_1, if_neg c_5, if_pos c_9, if_neg c_10]))⟩
          · skip
            refine v_aload_n (pc := 22) C dX12_foundAt_22 3 rfl rfl ?_
            refine v_get (pc := 23) C (40, 0) (v := .ref (A (72, 0))) ck_40 rfl 28 (by decide) inX12 wd_1416 rfl rfl dX12_foundAt_23 ?_
            refine v_iload (pc := 26) C dX12_foundAt_26 0 rfl ?_
            refine v_zald (pc := 28) C (72, 0) (v := (g 72 i_7 0)) ck_72 (by (try simp only [Int32.le_iff_toInt_le, Int32.lt_iff_toInt_lt, ← Int32.toInt_inj, vp_in_iff, Int32.reduceToInt] at c_1 c_5 c_9 hq_7 hr_7 hu hg hf ⊢) <;> omega) ((congrArg (fun k => g 72 k 0) (show (nI i_7 : Int32).toNatClampNeg = i_7 from (nI_clamp (by omega)))).trans rfl) dX12_foundAt_28 ?_
            refine v_if_eq (pc := 29) (tgt := 39) C dX12_foundAt_29 (by decide) (fun c_13 => ?_) (fun c_13 => ?_)
            · skip
              refine v_iload_n (pc := 39) C dX12_foundAt_39 2 rfl rfl ?_
              refine v_aload_n (pc := 40) C dX12_foundAt_40 3 rfl rfl ?_
              refine v_get (pc := 41) C (40, 0) (v := .ref (A (72, 0))) ck_40 rfl 28 (by decide) inX12 wd_1416 rfl rfl dX12_foundAt_41 ?_
              refine v_iload (pc := 44) C dX12_foundAt_44 0 rfl ?_
              refine v_zald (pc := 46) C (72, 0) (v := (g 72 i_7 0)) ck_72 (by (try simp only [Int32.le_iff_toInt_le, Int32.lt_iff_toInt_lt, ← Int32.toInt_inj, vp_in_iff, Int32.reduceToInt] at c_1 c_5 c_9 c_13 hq_7 hr_7 hu hg hf ⊢) <;> omega) ((congrArg (fun k => g 72 k 0) (show (nI i_7 : Int32).toNatClampNeg = i_7 from (nI_clamp (by omega)))).trans rfl) dX12_foundAt_46 ?_
              refine v_if_eq (pc := 47) (tgt := 54) C dX12_foundAt_47 (by decide) (fun c_14 => ?_) (fun c_14 => ?_)
              · skip
                refine v_iconst (v := 0) (pc := 54) C dX12_foundAt_54 rfl ?_
                refine v_isub (pc := 55) C dX12_foundAt_55 ?_
                refine v_istore_n (lv2 := [(2, .int ((x_7_2 - 0))), (4, .int (nI i_7)), (3, .int (x_7_3)), (0, .ref (A (40, 0))), (1, .int (x))]) (pc := 56) C dX12_foundAt_56 rfl (by decide) rfl ?_
                refine v_iinc (v := nI (i_7 + 1)) (lv2 := [(4, .int (nI (i_7 + 1))), (2, .int ((x_7_2 - 0))), (3, .int (x_7_3)), (0, .ref (A (40, 0))), (1, .int (x))]) (pc := 57) C dX12_foundAt_57 1 rfl (nI_1 _) (by decide) rfl ?_
                refine v_goto (tgt := 7) (pc := 60) C dX12_foundAt_60 (by decide) ?_
                refine v_lv (lv2 := [(4, .int (nI (i_7 + 1))), (3, .int (x_7_3)), (2, .int ((x_7_2 - 0))), (0, .ref (A (40, 0))), (1, .int (x))]) [0, 2, 1, 3, 4] rfl ?_
                exact ih (i_7 + 1) (x_7_3) ((x_7_2 - 0)) (by (try simp only [Int32.le_iff_toInt_le, Int32.lt_iff_toInt_lt, ← Int32.toInt_inj, vp_in_iff, Int32.reduceToInt] at c_1 c_5 c_9 c_13 c_14 hq_7 hr_7 hu hg hf ⊢) <;> omega) (by omega)  (by rw [eV_7, VL_X12_foundAt_7, if_neg c_1, if_neg c_5, if_neg c_9, if_pos c_13, if_pos c_14]) (by rw [eS_7, SL_X12_foundAt_7, if_neg c_1, if_neg c_5, if_neg c_9, if_pos c_13, if_pos c_14])
              · skip
                refine v_iconst (v := 1) (pc := 50) C dX12_foundAt_50 rfl ?_
                refine v_goto (tgt := 55) (pc := 51) C dX12_foundAt_51 (by decide) ?_
                refine v_isub (pc := 55) C dX12_foundAt_55 ?_
                refine v_istore_n (lv2 := [(2, .int ((x_7_2 - 1))), (4, .int (nI i_7)), (3, .int (x_7_3)), (0, .ref (A (40, 0))), (1, .int (x))]) (pc := 56) C dX12_foundAt_56 rfl (by decide) rfl ?_
                refine v_iinc (v := nI (i_7 + 1)) (lv2 := [(4, .int (nI (i_7 + 1))), (2, .int ((x_7_2 - 1))), (3, .int (x_7_3)), (0, .ref (A (40, 0))), (1, .int (x))]) (pc := 57) C dX12_foundAt_57 1 rfl (nI_1 _) (by decide) rfl ?_
                refine v_goto (tgt := 7) (pc := 60) C dX12_foundAt_60 (by decide) ?_
                refine v_lv (lv2 := [(4, .int (nI (i_7 + 1))), (3, .int (x_7_3)), (2, .int ((x_7_2 - 1))), (0, .ref (A (40, 0))), (1, .int (x))]) [0, 2, 1, 3, 4] rfl ?_
                exact ih (i_7 + 1) (x_7_3) ((x_7_2 - 1)) (by (try simp only [Int32.le_iff_toInt_le, Int32.lt_iff_toInt_lt, ← Int32.toInt_inj, vp_in_iff, Int32.reduceToInt] at c_1 c_5 c_9 c_13 c_14 hq_7 hr_7 hu hg hf ⊢) <;> omega) (by omega)  (by rw [eV_7, VL_X12_foundAt_7, if_neg c_1, if_neg c_5, if_neg c_9, if_pos c_13, if_neg c_14]) (by rw [eS_7, SL_X12_foundAt_7, if_neg c_1, if_neg c_5, if_neg c_9, if_pos c_13, if_neg c_14])
            · skip
              refine v_iload_n (pc := 32) C dX12_foundAt_32 2 rfl rfl ?_
              refine v_if_ne (pc := 33) (tgt := 39) C dX12_foundAt_33 (by decide) (fun c_15 => ?_) (fun c_15 => ?_)
              · skip
                refine v_iload_n (pc := 39) C dX12_foundAt_39 2 rfl rfl ?_
                refine v_aload_n (pc := 40) C dX12_foundAt_40 3 rfl rfl ?_
                refine v_get (pc := 41) C (40, 0) (v := .ref (A (72, 0))) ck_40 rfl 28 (by decide) inX12 wd_1416 rfl rfl dX12_foundAt_41 ?_
                refine v_iload (pc := 44) C dX12_foundAt_44 0 rfl ?_
                refine v_zald (pc := 46) C (72, 0) (v := (g 72 i_7 0)) ck_72 (by (try simp only [Int32.le_iff_toInt_le, Int32.lt_iff_toInt_lt, ← Int32.toInt_inj, vp_in_iff, Int32.reduceToInt] at c_1 c_5 c_9 c_13 c_15 hq_7 hr_7 hu hg hf ⊢) <;> omega) ((congrArg (fun k => g 72 k 0) (show (nI i_7 : Int32).toNatClampNeg = i_7 from (nI_clamp (by omega)))).trans rfl) dX12_foundAt_46 ?_
                refine v_if_eq (pc := 47) (tgt := 54) C dX12_foundAt_47 (by decide) (fun c_16 => ?_) (fun c_16 => ?_)
                · skip
                  refine v_iconst (v := 0) (pc := 54) C dX12_foundAt_54 rfl ?_
                  refine v_isub (pc := 55) C dX12_foundAt_55 ?_
                  refine v_istore_n (lv2 := [(2, .int ((x_7_2 - 0))), (4, .int (nI i_7)), (3, .int (x_7_3)), (0, .ref (A (40, 0))), (1, .int (x))]) (pc := 56) C dX12_foundAt_56 rfl (by decide) rfl ?_
                  refine v_iinc (v := nI (i_7 + 1)) (lv2 := [(4, .int (nI (i_7 + 1))), (2, .int ((x_7_2 - 0))), (3, .int (x_7_3)), (0, .ref (A (40, 0))), (1, .int (x))]) (pc := 57) C dX12_foundAt_57 1 rfl (nI_1 _) (by decide) rfl ?_
                  refine v_goto (tgt := 7) (pc := 60) C dX12_foundAt_60 (by decide) ?_
                  refine v_lv (lv2 := [(4, .int (nI (i_7 + 1))), (3, .int (x_7_3)), (2, .int ((x_7_2 - 0))), (0, .ref (A (40, 0))), (1, .int (x))]) [0, 2, 1, 3, 4] rfl ?_
                  exact ih (i_7 + 1) (x_7_3) ((x_7_2 - 0)) (by (try simp only [Int32.le_iff_toInt_le, Int32.lt_iff_toInt_lt, ← Int32.toInt_inj, vp_in_iff, Int32.reduceToInt] at c_1 c_5 c_9 c_13 c_15 c_16 hq_7 hr_7 hu hg hf ⊢) <;> omega) (by omega)  (by rw [eV_7, VL_X12_foundAt_7, if_neg c_1, if_neg c_5, if_neg c_9, if_neg c_13, if_neg c_15, if_pos c_16]) (by rw [eS_7, SL_X12_foundAt_7, if_neg c_1, if_neg c_5, if_neg c_9, if_neg c_13, if_neg c_15, if_pos c_16])
                · skip
                  refine v_iconst (v := 1) (pc := 50) C dX12_foundAt_50 rfl ?_
                  refine v_goto (tgt := 55) (pc := 51) C dX12_foundAt_51 (by decide) ?_
                  refine v_isub (pc := 55) C dX12_foundAt_55 ?_
                  refine v_istore_n (lv2 := [(2, .int ((x_7_2 - 1))), (4, .int (nI i_7)), (3, .int (x_7_3)), (0, .ref (A (40, 0))), (1, .int (x))]) (pc := 56) C dX12_foundAt_56 rfl (by decide) rfl ?_
                  refine v_iinc (v := nI (i_7 + 1)) (lv2 := [(4, .int (nI (i_7 + 1))), (2, .int ((x_7_2 - 1))), (3, .int (x_7_3)), (0, .ref (A (40, 0))), (1, .int (x))]) (pc := 57) C dX12_foundAt_57 1 rfl (nI_1 _) (by decide) rfl ?_
                  refine v_goto (tgt := 7) (pc := 60) C dX12_foundAt_60 (by decide) ?_
                  refine v_lv (lv2 := [(4, .int (nI (i_7 + 1))), (3, .int (x_7_3)), (2, .int ((x_7_2 - 1))), (0, .ref (A (40, 0))), (1, .int (x))]) [0, 2, 1, 3, 4] rfl ?_
                  exact ih (i_7 + 1) (x_7_3) ((x_7_2 - 1)) (by (try simp only [Int32.le_iff_toInt_le, Int32.lt_iff_toInt_lt, ← Int32.toInt_inj, vp_in_iff, Int32.reduceToInt] at c_1 c_5 c_9 c_13 c_15 c_16 hq_7 hr_7 hu hg hf ⊢) <;> omega) (by omega)  (by rw [eV_7, VL_X12_foundAt_7, if_neg c_1, if_neg c_5, if_neg c_9, if_neg c_13, if_neg c_15, if_neg c_16]) (by rw [eS_7, SL_X12_foundAt_7, if_neg c_1, if_neg c_5, if_neg c_9, if_neg c_13, if_neg c_15, if_neg c_16])
              · skip
                refine v_iload (pc := 36) C dX12_foundAt_36 0 rfl ?_
                refine v_istore_n (lv2 := [(3, .int (nI i_7)), (4, .int (nI i_7)), (2, .int (x_7_2)), (0, .ref (A (40, 0))), (1, .int (x))]) (pc := 38) C dX12_foundAt_38 rfl (by decide) rfl ?_
                refine v_iload_n (pc := 39) C dX12_foundAt_39 2 rfl rfl ?_
                refine v_aload_n (pc := 40) C dX12_foundAt_40 3 rfl rfl ?_
                refine v_get (pc := 41) C (40, 0) (v := .ref (A (72, 0))) ck_40 rfl 28 (by decide) inX12 wd_1416 rfl rfl dX12_foundAt_41 ?_
                refine v_iload (pc := 44) C dX12_foundAt_44 1 rfl ?_
                refine v_zald (pc := 46) C (72, 0) (v := (g 72 i_7 0)) ck_72 (by (try simp only [Int32.le_iff_toInt_le, Int32.lt_iff_toInt_lt, ← Int32.toInt_inj, vp_in_iff, Int32.reduceToInt] at c_1 c_5 c_9 c_13 c_15 hq_7 hr_7 hu hg hf ⊢) <;> omega) ((congrArg (fun k => g 72 k 0) (show (nI i_7 : Int32).toNatClampNeg = i_7 from (nI_clamp (by omega)))).trans rfl) dX12_foundAt_46 ?_
                refine v_if_eq (pc := 47) (tgt := 54) C dX12_foundAt_47 (by decide) (fun c_17 => ?_) (fun c_17 => ?_)
                · skip
                  refine v_iconst (v := 0) (pc := 54) C dX12_foundAt_54 rfl ?_
                  refine v_isub (pc := 55) C dX12_foundAt_55 ?_
                  refine v_istore_n (lv2 := [(2, .int ((x_7_2 - 0))), (3, .int (nI i_7)), (4, .int (nI i_7)), (0, .ref (A (40, 0))), (1, .int (x))]) (pc := 56) C dX12_foundAt_56 rfl (by decide) rfl ?_
                  refine v_iinc (v := nI (i_7 + 1)) (lv2 := [(4, .int (nI (i_7 + 1))), (2, .int ((x_7_2 - 0))), (3, .int (nI i_7)), (0, .ref (A (40, 0))), (1, .int (x))]) (pc := 57) C dX12_foundAt_57 2 rfl (nI_1 _) (by decide) rfl ?_
                  refine v_goto (tgt := 7) (pc := 60) C dX12_foundAt_60 (by decide) ?_
                  refine v_lv (lv2 := [(4, .int (nI (i_7 + 1))), (3, .int (nI i_7)), (2, .int ((x_7_2 - 0))), (0, .ref (A (40, 0))), (1, .int (x))]) [0, 2, 1, 3, 4] rfl ?_
                  exact ih (i_7 + 1) (nI i_7) ((x_7_2 - 0)) (by (try simp only [Int32.le_iff_toInt_le, Int32.lt_iff_toInt_lt, ← Int32.toInt_inj, vp_in_iff, Int32.reduceToInt] at c_1 c_5 c_9 c_13 c_15 c_17 hq_7 hr_7 hu hg hf ⊢) <;> omega) (by omega)  (by rw [eV_7, VL_X12_foundAt_7, if_neg c_1, if_neg c_5, if_neg c_9, if_neg c_13, if_pos c_15, if_pos c_17]) (by rw [eS_7, SL_X12_foundAt_7, if_neg c_1, if_neg c_5, if_neg c_9, if_neg c_13, if_pos c_15, if_pos c_17])
                · skip
                  refine v_iconst (v := 1) (pc := 50) C dX12_foundAt_50 rfl ?_
                  refine v_goto (tgt := 55) (pc := 51) C dX12_foundAt_51 (by decide) ?_
                  refine v_isub (pc := 55) C dX12_foundAt_55 ?_
                  refine v_istore_n (lv2 := [(2, .int ((x_7_2 - 1))), (3, .int (nI i_7)), (4, .int (nI i_7)), (0, .ref (A (40, 0))), (1, .int (x))]) (pc := 56) C dX12_foundAt_56 rfl (by decide) rfl ?_
                  refine v_iinc (v := nI (i_7 + 1)) (lv2 := [(4, .int (nI (i_7 + 1))), (2, .int ((x_7_2 - 1))), (3, .int (nI i_7)), (0, .ref (A (40, 0))), (1, .int (x))]) (pc := 57) C dX12_foundAt_57 2 rfl (nI_1 _) (by decide) rfl ?_
                  refine v_goto (tgt := 7) (pc := 60) C dX12_foundAt_60 (by decide) ?_
                  refine v_lv (lv2 := [(4, .int (nI (i_7 + 1))), (3, .int (nI i_7)), (2, .int ((x_7_2 - 1))), (0, .ref (A (40, 0))), (1, .int (x))]) [0, 2, 1, 3, 4] rfl ?_
                  exact ih (i_7 + 1) (nI i_7) ((x_7_2 - 1)) (by (try simp only [Int32.le_iff_toInt_le, Int32.lt_iff_toInt_lt, ← Int32.toInt_inj, vp_in_iff, Int32.reduceToInt] at c_1 c_5 c_9 c_13 c_15 c_17 hq_7 hr_7 hu hg hf ⊢) <;> omega) (by omega)  (by rw [eV_7, VL_X12_foundAt_7, if_neg c_1, if_neg c_5, if_neg c_9, if_neg c_13, if_pos c_15, if_neg c_17]) (by rw [eS_7, SL_X12_foundAt_7, if_neg c_1, if_neg c_5, if_neg c_9, if_neg c_13, if_pos c_15, if_neg c_17])
  exact L_7 (20 + 1) 0 (-1) (x) (by omega) (by omega)  (by rw [V_X12_foundAt]) (by rw [S_X12_foundAt])
