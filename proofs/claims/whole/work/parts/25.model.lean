
/-- the files' groups are there; a file's present version and each part's version lie in its row of beginnings -/
def vM1 (g : vS) : Prop := ∀ f : Nat, 0 ≤ (g 55 f 0).toInt ∧ (g 55 f 0).toInt < 5
def vM2 (g : vS) : Prop := ∀ f : Nat, 0 ≤ (g 56 f 0).toInt ∧ (g 56 f 0).toInt < ((g 13 f 0).toNatClampNeg : Int)
def vM3 (g : vS) : Prop := ∀ f p : Nat, 0 ≤ (g 61 f p).toInt ∧ (g 61 f p).toInt ≤ (g 56 f 0).toInt
theorem vM1_k {g G : vS} (h : ∀ i j, G 55 i j = g 55 i j) (q : vM1 g) : vM1 G := fun f => by rw [h]; exact q f
theorem vM2_k {g G : vS} (h : ∀ i j, G 56 i j = g 56 i j) (h2 : ∀ i j, G 13 i j = g 13 i j) (q : vM2 g) : vM2 G := fun f => by rw [h, h2]; exact q f
theorem vM3_k {g G : vS} (h : ∀ i j, G 61 i j = g 61 i j) (h2 : ∀ i j, G 56 i j = g 56 i j) (q : vM3 g) : vM3 G := fun f p => by rw [h, h2]; exact q f p

def V_X12_isNotThere (g : vS) (zz : Int32) (x : Int32) (y : Int32) : Int32 := (if zz = 0 then (V_X12_isWrong g (1)) else (if (V_X12_isFile g (x)) = 0 then (V_X12_isWrong g (1)) else (if (V_X12_isPart g (y)) = 0 then (V_X12_isWrong g (2)) else (if (g 63 (x).toNatClampNeg (y).toNatClampNeg) = 0 then (V_X12_isWrong g (1)) else (V_X12_isWrong g (0))))))
theorem B_X12_isNotThere {g : vS} {zz : Int32} {x : Int32} {y : Int32} : V_X12_isNotThere g zz x y = 0 ∨ V_X12_isNotThere g zz x y = 1 := by
  unfold V_X12_isNotThere
  (repeat' split) <;> first | exact Or.inl rfl | exact Or.inr rfl | exact B_X12_isWrong
def S_X12_isNotThere (g : vS) (zz : Int32) (x : Int32) (y : Int32) : vS := (if zz = 0 then (S_X12_isWrong g (1)) else (if (V_X12_isFile g (x)) = 0 then (S_X12_isWrong g (1)) else (if (V_X12_isPart g (y)) = 0 then (S_X12_isWrong g (2)) else (if (g 63 (x).toNatClampNeg (y).toNatClampNeg) = 0 then (S_X12_isWrong g (1)) else (S_X12_isWrong g (0))))))
theorem F_X12_isNotThere {g : vS} {zz : Int32} {x : Int32} {y : Int32} {c i j : Nat} (h1 : c ≠ 1) : S_X12_isNotThere g zz x y c i j = g c i j := by
  unfold S_X12_isNotThere
  (repeat' split) <;> first | rfl | ((simp only [s3_k h1, F_X12_isWrong h1]) <;> first | done | rfl)
set_option maxHeartbeats 4000000 in
set_option maxRecDepth 100000 in
theorem c_X12_isNotThere {G : vG} (hG : G.1.stackTraces = false) {A : vN → Nat} {g : vS} {r : vH} (zz : Int32) (x : Int32) (y : Int32) (hu0 : 0 ≤ (g 2 0 0).toInt) (hu : (g 2 0 0).toInt ≤ 6) (hg0 : 0 ≤ (g 3 0 0).toInt) (hg : (g 3 0 0).toInt ≤ 5) (hf0 : 0 ≤ (g 4 0 0).toInt) (hf : (g 4 0 0).toInt ≤ 20) : vCt G yX12_isNotThere cX12_isNotThere 4 (some .boolean) 2 [.ref (A (40, 0)), .int (zz), .int (x), .int (y)] A (wm g r) (fun v A2 h2 => v = some (.int (V_X12_isNotThere g zz x y)) ∧ A2 = A ∧ h2 = wm (S_X12_isNotThere g zz x y) r) (vNoX) 0 0 := by
  refine v_of hG (by decide +kernel) (Nat.le_of_ble_eq_true rfl) (lv := [(0, .ref (A (40, 0))), (1, .int (zz)), (2, .int (x)), (3, .int (y))]) rfl (fun X C hnx => ?_)
  have C : vC G X cX12_isNotThere 4 RX12 (some .boolean) "isNotThere" 2 0 0 := C
  refine v_aload_n (pc := 0) C dX12_isNotThere_0 0 rfl rfl ?_
  refine v_iload_n (pc := 1) C dX12_isNotThere_1 1 rfl rfl ?_
  refine v_if_eq (pc := 2) (tgt := 13) C dX12_isNotThere_2 (by decide) (fun c_1 => ?_) (fun c_1 => ?_)
  · skip
    refine v_iconst (v := 1) (pc := 13) C dX12_isNotThere_13 rfl ?_
    refine v_goto (tgt := 44) (pc := 14) C dX12_isNotThere_14 (by decide) ?_
    refine v_callV (pc := 44) C (40, 0) ck_40 rfl (c_X12_isWrong hG (1) ) 1 wd_1528 wd_68 wd_1525 wd_1527 wd_35 (by decide +kernel) (by decide) (by decide) rfl ([]) rfl (Nat.le_of_ble_eq_true rfl) (by decide) dX12_isNotThere_44 (fun _ _ _ q => q.elim) (fun v9 A9 h9 hR9 => ?_)
    obtain ⟨rfl, hA9, rfl⟩ := hR9
    obtain rfl := hA9.symm
    refine v_st (k2 := 0) (n2 := 0) (st2 := [.int ((V_X12_isWrong g (1)))]) rfl rfl rfl ?_
    exact v_zret (pc := 47) C (nar_b B_X12_isWrong) (by decide) (by decide) dX12_isNotThere_47 ⟨(congrArg (fun q => some (Value.int q)) (by show _ = _; rw [V_X12_isNotThere, if_pos c_1])), rfl, (congrArg (fun q => wm q r) (by show _ = _; rw [S_X12_isNotThere, if_pos c_1]))⟩
  · skip
    refine v_aload_n (pc := 5) C dX12_isNotThere_5 0 rfl rfl ?_
    refine v_iload_n (pc := 6) C dX12_isNotThere_6 2 rfl rfl ?_
    refine v_callV (pc := 7) C (40, 0) ck_40 rfl (c_X12_isFile hG (x) ) 1 wd_1610 wd_68 wd_1607 wd_1609 wd_45 (by decide +kernel) (by decide) (by decide) rfl ([.ref (A (40, 0))]) rfl (Nat.le_of_ble_eq_true rfl) (by decide) dX12_isNotThere_7 (fun _ _ _ q => q.elim) (fun v9 A9 h9 hR9 => ?_)
    obtain ⟨rfl, hA9, rfl⟩ := hR9
    obtain rfl := hA9.symm
    refine v_st (k2 := 0) (n2 := 0) (st2 := [.int ((V_X12_isFile g (x))), .ref (A (40, 0))]) rfl rfl rfl ?_
    have b_2 := ok_isFile (g := g) (x := x) hf0
    refine v_if_ne (pc := 10) (tgt := 17) C dX12_isNotThere_10 (by decide) (fun c_3 => ?_) (fun c_3 => ?_)
    · skip
      refine v_iload_n (pc := 17) C dX12_isNotThere_17 3 rfl rfl ?_
      refine v_callS (pc := 18) C (c_X12_isPart hG (y) ) 1 wd_1613 wd_68 wd_1611 wd_1612 (by decide +kernel) (by decide) (by decide) rfl ([.ref (A (40, 0))]) rfl (Nat.le_of_ble_eq_true rfl) (by decide) dX12_isNotThere_18 (fun _ _ _ q => q.elim) (fun v9 A9 h9 hR9 => ?_)
      obtain ⟨rfl, hA9, rfl⟩ := hR9
      obtain rfl := hA9.symm
      refine v_st (k2 := 0) (n2 := 0) (st2 := [.int ((V_X12_isPart g (y))), .ref (A (40, 0))]) rfl rfl rfl ?_
      have b_4 := ok_isPart (g := g) (x := y)
      refine v_if_ne (pc := 21) (tgt := 28) C dX12_isNotThere_21 (by decide) (fun c_5 => ?_) (fun c_5 => ?_)
      · skip
        refine v_aload_n (pc := 28) C dX12_isNotThere_28 0 rfl rfl ?_
        refine v_get (pc := 29) C (40, 0) (v := .ref (A (62, 0))) ck_40 rfl 20 (by decide) inX12 wd_1405 rfl rfl dX12_isNotThere_29 ?_
        refine v_iload_n (pc := 32) C dX12_isNotThere_32 2 rfl rfl ?_
        refine v_aald (pc := 33) C (62, 0) ck_62 rfl rfl (by (try simp only [Int32.le_iff_toInt_le, Int32.lt_iff_toInt_lt, ← Int32.toInt_inj, vp_in_iff, Int32.reduceToInt] at c_1 c_3 c_5 b_2 b_4 hu hg hf ⊢) <;> omega) (63, (x).toNatClampNeg) rfl dX12_isNotThere_33 ?_
        refine v_iload_n (pc := 34) C dX12_isNotThere_34 3 rfl rfl ?_
        refine v_iald (pc := 35) C (63, (x).toNatClampNeg) (v := (g 63 (x).toNatClampNeg (y).toNatClampNeg)) (ck_63 (g := g) (tn_lt (by (try simp only [Int32.le_iff_toInt_le, Int32.lt_iff_toInt_lt, ← Int32.toInt_inj, Int32.reduceToInt] at c_1 c_3 c_5 b_2 b_4 hu hg hf ⊢); omega))) (by (try simp only [Int32.le_iff_toInt_le, Int32.lt_iff_toInt_lt, ← Int32.toInt_inj, vp_in_iff, Int32.reduceToInt] at c_1 c_3 c_5 b_2 b_4 hu hg hf ⊢) <;> omega) rfl dX12_isNotThere_35 ?_
        refine v_if_ne (pc := 36) (tgt := 43) C dX12_isNotThere_36 (by decide) (fun c_6 => ?_) (fun c_6 => ?_)
        · skip
          refine v_iconst (v := 0) (pc := 43) C dX12_isNotThere_43 rfl ?_
          refine v_callV (pc := 44) C (40, 0) ck_40 rfl (c_X12_isWrong hG (0) ) 1 wd_1528 wd_68 wd_1525 wd_1527 wd_35 (by decide +kernel) (by decide) (by decide) rfl ([]) rfl (Nat.le_of_ble_eq_true rfl) (by decide) dX12_isNotThere_44 (fun _ _ _ q => q.elim) (fun v9 A9 h9 hR9 => ?_)
          obtain ⟨rfl, hA9, rfl⟩ := hR9
          obtain rfl := hA9.symm
          refine v_st (k2 := 0) (n2 := 0) (st2 := [.int ((V_X12_isWrong g (0)))]) rfl rfl rfl ?_
          exact v_zret (pc := 47) C (nar_b B_X12_isWrong) (by decide) (by decide) dX12_isNotThere_47 ⟨(congrArg (fun q => some (Value.int q)) (by show _ = _; rw [V_X12_isNotThere, if_neg c_1, if_neg c_3, if_neg c_5, if_neg c_6])), rfl, (congrArg (fun q => wm q r) (by show _ = _; rw [S_X12_isNotThere, if_neg c_1, if_neg c_3, if_neg c_5, if_neg c_6]))⟩
        · skip
          refine v_iconst (v := 1) (pc := 39) C dX12_isNotThere_39 rfl ?_
          refine v_goto (tgt := 44) (pc := 40) C dX12_isNotThere_40 (by decide) ?_
          refine v_callV (pc := 44) C (40, 0) ck_40 rfl (c_X12_isWrong hG (1) ) 1 wd_1528 wd_68 wd_1525 wd_1527 wd_35 (by decide +kernel) (by decide) (by decide) rfl ([]) rfl (Nat.le_of_ble_eq_true rfl) (by decide) dX12_isNotThere_44 (fun _ _ _ q => q.elim) (fun v9 A9 h9 hR9 => ?_)
          obtain ⟨rfl, hA9, rfl⟩ := hR9
          obtain rfl := hA9.symm
          refine v_st (k2 := 0) (n2 := 0) (st2 := [.int ((V_X12_isWrong g (1)))]) rfl rfl rfl ?_
          exact v_zret (pc := 47) C (nar_b B_X12_isWrong) (by decide) (by decide) dX12_isNotThere_47 ⟨(congrArg (fun q => some (Value.int q)) (by show _ = _; rw [V_X12_isNotThere, if_neg c_1, if_neg c_3, if_neg c_5, if_pos c_6])), rfl, (congrArg (fun q => wm q r) (by show _ = _; rw [S_X12_isNotThere, if_neg c_1, if_neg c_3, if_neg c_5, if_pos c_6]))⟩
      · skip
        refine v_iconst (v := 2) (pc := 24) C dX12_isNotThere_24 rfl ?_
        refine v_goto (tgt := 44) (pc := 25) C dX12_isNotThere_25 (by decide) ?_
        refine v_callV (pc := 44) C (40, 0) ck_40 rfl (c_X12_isWrong hG (2) ) 1 wd_1528 wd_68 wd_1525 wd_1527 wd_35 (by decide +kernel) (by decide) (by decide) rfl ([]) rfl (Nat.le_of_ble_eq_true rfl) (by decide) dX12_isNotThere_44 (fun _ _ _ q => q.elim) (fun v9 A9 h9 hR9 => ?_)
        obtain ⟨rfl, hA9, rfl⟩ := hR9
        obtain rfl := hA9.symm
        refine v_st (k2 := 0) (n2 := 0) (st2 := [.int ((V_X12_isWrong g (2)))]) rfl rfl rfl ?_
        exact v_zret (pc := 47) C (nar_b B_X12_isWrong) (by decide) (by decide) dX12_isNotThere_47 ⟨(congrArg (fun q => some (Value.int q)) (by show _ = _; rw [V_X12_isNotThere, if_neg c_1, if_neg c_3, if_pos c_5])), rfl, (congrArg (fun q => wm q r) (by show _ = _; rw [S_X12_isNotThere, if_neg c_1, if_neg c_3, if_pos c_5]))⟩
    · skip
      refine v_iconst (v := 1) (pc := 13) C dX12_isNotThere_13 rfl ?_
      refine v_goto (tgt := 44) (pc := 14) C dX12_isNotThere_14 (by decide) ?_
      refine v_callV (pc := 44) C (40, 0) ck_40 rfl (c_X12_isWrong hG (1) ) 1 wd_1528 wd_68 wd_1525 wd_1527 wd_35 (by decide +kernel) (by decide) (by decide) rfl ([]) rfl (Nat.le_of_ble_eq_true rfl) (by decide) dX12_isNotThere_44 (fun _ _ _ q => q.elim) (fun v9 A9 h9 hR9 => ?_)
      obtain ⟨rfl, hA9, rfl⟩ := hR9
      obtain rfl := hA9.symm
      refine v_st (k2 := 0) (n2 := 0) (st2 := [.int ((V_X12_isWrong g (1)))]) rfl rfl rfl ?_
      exact v_zret (pc := 47) C (nar_b B_X12_isWrong) (by decide) (by decide) dX12_isNotThere_47 ⟨(congrArg (fun q => some (Value.int q)) (by show _ = _; rw [V_X12_isNotThere, if_neg c_1, if_pos c_3])), rfl, (congrArg (fun q => wm q r) (by show _ = _; rw [S_X12_isNotThere, if_neg c_1, if_pos c_3]))⟩
theorem ok_notThere {g : vS} {zz x y : Int32} (h : 0 ≤ (g 4 0 0).toInt) : ¬ (V_X12_isNotThere g zz x y).toInt = 0 ∨ (¬ zz.toInt = 0 ∧ 0 ≤ x.toInt ∧ x.toInt < (g 4 0 0).toInt ∧ 0 ≤ y.toInt ∧ y.toInt < 8) := by
  have h1 := ok_isFile (g := g) (x := x) h
  have h2 := ok_isPart (g := g) (x := y)
  unfold V_X12_isNotThere
  (repeat' split) <;> first
    | exact Or.inl (show ¬ (1 : Int32).toInt = 0 by decide)
    | (right; rename_i a b c d; rw [← Int32.toInt_inj] at a b c; simp only [Int32.reduceToInt] at a b c; omega)
def V_X12_reads (g : vS) (u : Int32) (x : Int32) (y : Int32) : Int32 := (if (V_X12_latest g ((g 55 (x).toNatClampNeg 0)) (u)) < (g 59 (x).toNatClampNeg ((g 61 (x).toNatClampNeg (y).toNatClampNeg)).toNatClampNeg) then 0 else 1)
theorem B_X12_reads {g : vS} {u : Int32} {x : Int32} {y : Int32} : V_X12_reads g u x y = 0 ∨ V_X12_reads g u x y = 1 := by
  unfold V_X12_reads
  (repeat' split) <;> first | exact Or.inl rfl | exact Or.inr rfl
set_option maxHeartbeats 4000000 in
set_option maxRecDepth 100000 in
theorem c_X12_reads {G : vG} (hG : G.1.stackTraces = false) {A : vN → Nat} {g : vS} {r : vH} (u : Int32) (x : Int32) (y : Int32) (hu0 : 0 ≤ (g 2 0 0).toInt) (hu : (g 2 0 0).toInt ≤ 6) (hg0 : 0 ≤ (g 3 0 0).toInt) (hg : (g 3 0 0).toInt ≤ 5) (hf0 : 0 ≤ (g 4 0 0).toInt) (hf : (g 4 0 0).toInt ≤ 20) (u_0 : 0 ≤ (u).toInt) (u_N : (u).toInt < 6) (x_0 : 0 ≤ (x).toInt) (x_N : (x).toInt < 20) (y_0 : 0 ≤ (y).toInt) (y_N : (y).toInt < 8) (h1 : vM1 g) (h2 : vM2 g) (h3 : vM3 g) : vCt G yX12_reads cX12_reads 4 (some .boolean) 1 [.ref (A (40, 0)), .int (u), .int (x), .int (y)] A (wm g r) (fun v A2 h2 => v = some (.int (V_X12_reads g u x y)) ∧ A2 = A ∧ h2 = wm g r) (vNoX) 0 0 := by
  refine v_of hG (by decide +kernel) (Nat.le_of_ble_eq_true rfl) (lv := [(0, .ref (A (40, 0))), (1, .int (u)), (2, .int (x)), (3, .int (y))]) rfl (fun X C hnx => ?_)
  have C : vC G X cX12_reads 4 RX12 (some .boolean) "reads" 1 0 0 := C
  refine v_aload_n (pc := 0) C dX12_reads_0 0 rfl rfl ?_
  refine v_get (pc := 1) C (40, 0) (v := .ref (A (58, 0))) ck_40 rfl 18 (by decide) inX12 wd_1403 rfl rfl dX12_reads_1 ?_
  refine v_iload_n (pc := 4) C dX12_reads_4 2 rfl rfl ?_
  refine v_aald (pc := 5) C (58, 0) ck_58 rfl rfl (by (try simp only [Int32.le_iff_toInt_le, Int32.lt_iff_toInt_lt, ← Int32.toInt_inj, vp_in_iff, Int32.reduceToInt] at hu hg hf u_0 u_N x_0 x_N y_0 y_N ⊢) <;> omega) (59, (x).toNatClampNeg) rfl dX12_reads_5 ?_
  refine v_aload_n (pc := 6) C dX12_reads_6 0 rfl rfl ?_
  refine v_get (pc := 7) C (40, 0) (v := .ref (A (60, 0))) ck_40 rfl 19 (by decide) inX12 wd_1404 rfl rfl dX12_reads_7 ?_
  refine v_iload_n (pc := 10) C dX12_reads_10 2 rfl rfl ?_
  refine v_aald (pc := 11) C (60, 0) ck_60 rfl rfl (by (try simp only [Int32.le_iff_toInt_le, Int32.lt_iff_toInt_lt, ← Int32.toInt_inj, vp_in_iff, Int32.reduceToInt] at hu hg hf u_0 u_N x_0 x_N y_0 y_N ⊢) <;> omega) (61, (x).toNatClampNeg) rfl dX12_reads_11 ?_
  refine v_iload_n (pc := 12) C dX12_reads_12 3 rfl rfl ?_
  refine v_iald (pc := 13) C (61, (x).toNatClampNeg) (v := (g 61 (x).toNatClampNeg (y).toNatClampNeg)) (ck_61 (g := g) (tn_lt (by (try simp only [Int32.le_iff_toInt_le, Int32.lt_iff_toInt_lt, ← Int32.toInt_inj, Int32.reduceToInt] at hu hg hf u_0 u_N x_0 x_N y_0 y_N ⊢); omega))) (by (try simp only [Int32.le_iff_toInt_le, Int32.lt_iff_toInt_lt, ← Int32.toInt_inj, vp_in_iff, Int32.reduceToInt] at hu hg hf u_0 u_N x_0 x_N y_0 y_N ⊢) <;> omega) rfl dX12_reads_13 ?_
  have b_1 := h3 (x).toNatClampNeg (y).toNatClampNeg
  have b_2 := h2 (x).toNatClampNeg
  refine v_iald (pc := 14) C (59, (x).toNatClampNeg) (v := (g 59 (x).toNatClampNeg ((g 61 (x).toNatClampNeg (y).toNatClampNeg)).toNatClampNeg)) (ck_59 (g := g) (tn_lt (by (try simp only [Int32.le_iff_toInt_le, Int32.lt_iff_toInt_lt, ← Int32.toInt_inj, Int32.reduceToInt] at b_1 b_2 hu hg hf u_0 u_N x_0 x_N y_0 y_N ⊢); omega))) (by (try simp only [Int32.le_iff_toInt_le, Int32.lt_iff_toInt_lt, ← Int32.toInt_inj, vp_in_iff, Int32.reduceToInt] at b_1 b_2 hu hg hf u_0 u_N x_0 x_N y_0 y_N ⊢) <;> omega) rfl dX12_reads_14 ?_
  refine v_aload_n (pc := 15) C dX12_reads_15 0 rfl rfl ?_
  refine v_aload_n (pc := 16) C dX12_reads_16 0 rfl rfl ?_
  refine v_get (pc := 17) C (40, 0) (v := .ref (A (55, 0))) ck_40 rfl 15 (by decide) inX12 wd_1400 rfl rfl dX12_reads_17 ?_
  refine v_iload_n (pc := 20) C dX12_reads_20 2 rfl rfl ?_
  refine v_iald (pc := 21) C (55, 0) (v := (g 55 (x).toNatClampNeg 0)) ck_55 (by (try simp only [Int32.le_iff_toInt_le, Int32.lt_iff_toInt_lt, ← Int32.toInt_inj, vp_in_iff, Int32.reduceToInt] at b_1 b_2 hu hg hf u_0 u_N x_0 x_N y_0 y_N ⊢) <;> omega) rfl dX12_reads_21 ?_
  have b_3 := h1 (x).toNatClampNeg
  refine v_iload_n (pc := 22) C dX12_reads_22 1 rfl rfl ?_
  refine v_callV (pc := 23) C (40, 0) ck_40 rfl (c_X12_latest hG ((g 55 (x).toNatClampNeg 0)) (u) hu0 hu hg0 hg hf0 hf (by (try simp only [Int32.le_iff_toInt_le, Int32.lt_iff_toInt_lt, ← Int32.toInt_inj, Int32.reduceToInt] at b_1 b_2 b_3 hu hg hf u_0 u_N x_0 x_N y_0 y_N ⊢); omega) (by (try simp only [Int32.le_iff_toInt_le, Int32.lt_iff_toInt_lt, ← Int32.toInt_inj, Int32.reduceToInt] at b_1 b_2 b_3 hu hg hf u_0 u_N x_0 x_N y_0 y_N ⊢); omega) (by (try simp only [Int32.le_iff_toInt_le, Int32.lt_iff_toInt_lt, ← Int32.toInt_inj, Int32.reduceToInt] at b_1 b_2 b_3 hu hg hf u_0 u_N x_0 x_N y_0 y_N ⊢); omega) (by (try simp only [Int32.le_iff_toInt_le, Int32.lt_iff_toInt_lt, ← Int32.toInt_inj, Int32.reduceToInt] at b_1 b_2 b_3 hu hg hf u_0 u_N x_0 x_N y_0 y_N ⊢); omega)) 2 wd_1598 wd_68 wd_1595 wd_1597 wd_44 (by decide +kernel) (by decide) (by decide) rfl ([.int ((g 59 (x).toNatClampNeg ((g 61 (x).toNatClampNeg (y).toNatClampNeg)).toNatClampNeg))]) rfl (Nat.le_of_ble_eq_true rfl) (by decide) dX12_reads_23 (fun _ _ _ q => q.elim) (fun v9 A9 h9 hR9 => ?_)
  obtain ⟨rfl, hA9, rfl⟩ := hR9
  obtain rfl := hA9.symm
  refine v_st (k2 := 0) (n2 := 0) (st2 := [.int ((V_X12_latest g ((g 55 (x).toNatClampNeg 0)) (u))), .int ((g 59 (x).toNatClampNeg ((g 61 (x).toNatClampNeg (y).toNatClampNeg)).toNatClampNeg))]) rfl rfl rfl ?_
  refine v_icmp_gt (pc := 26) (tgt := 33) C dX12_reads_26 (by decide) (fun c_4 => ?_) (fun c_4 => ?_)
  · skip
    refine v_iconst (v := 0) (pc := 33) C dX12_reads_33 rfl ?_
    exact v_zret (pc := 34) C rfl (by decide) (by decide) dX12_reads_34 ⟨(congrArg (fun q => some (Value.int q)) (by show _ = _; rw [V_X12_reads, if_pos c_4])), rfl, rfl⟩
  · skip
    refine v_iconst (v := 1) (pc := 29) C dX12_reads_29 rfl ?_
    refine v_goto (tgt := 34) (pc := 30) C dX12_reads_30 (by decide) ?_
    exact v_zret (pc := 34) C rfl (by decide) (by decide) dX12_reads_34 ⟨(congrArg (fun q => some (Value.int q)) (by show _ = _; rw [V_X12_reads, if_neg c_4])), rfl, rfl⟩
def V_X12_writes (g : vS) (x : Int32) (y : Int32) : Int32 := (if (V_X12_isFile g (x)) = 0 then 0 else (if (V_X12_isPart g (y)) = 0 then 0 else (g 63 (x).toNatClampNeg (y).toNatClampNeg)))
def S_X12_writes (g : vS) (x : Int32) (y : Int32) : vS := (if (V_X12_isFile g (x)) = 0 then (S_X12_isWrong g (1)) else (if (V_X12_isPart g (y)) = 0 then (S_X12_isWrong g (2)) else (S_X12_isWrong g (0))))
theorem F_X12_writes {g : vS} {x : Int32} {y : Int32} {c i j : Nat} (h1 : c ≠ 1) : S_X12_writes g x y c i j = g c i j := by
  unfold S_X12_writes
  (repeat' split) <;> first | rfl | ((simp only [s3_k h1, F_X12_isWrong h1]) <;> first | done | rfl)
set_option maxHeartbeats 4000000 in
set_option maxRecDepth 100000 in
theorem c_X12_writes {G : vG} (hG : G.1.stackTraces = false) {A : vN → Nat} {g : vS} {r : vH} (x : Int32) (y : Int32) (hu0 : 0 ≤ (g 2 0 0).toInt) (hu : (g 2 0 0).toInt ≤ 6) (hg0 : 0 ≤ (g 3 0 0).toInt) (hg : (g 3 0 0).toInt ≤ 5) (hf0 : 0 ≤ (g 4 0 0).toInt) (hf : (g 4 0 0).toInt ≤ 20) (h1 : vM1 g) (h2 : vM2 g) (h3 : vM3 g) : vCt G yX12_writes cX12_writes 3 (some .int) 2 [.ref (A (40, 0)), .int (x), .int (y)] A (wm g r) (fun v A2 h2 => v = some (.int (V_X12_writes g x y)) ∧ A2 = A ∧ h2 = wm (S_X12_writes g x y) r) (vNoX) 0 0 := by
  refine v_of hG (by decide +kernel) (Nat.le_of_ble_eq_true rfl) (lv := [(0, .ref (A (40, 0))), (1, .int (x)), (2, .int (y))]) rfl (fun X C hnx => ?_)
  have C : vC G X cX12_writes 3 RX12 (some .int) "writes" 2 0 0 := C
  refine v_aload_n (pc := 0) C dX12_writes_0 0 rfl rfl ?_
  refine v_aload_n (pc := 1) C dX12_writes_1 0 rfl rfl ?_
  refine v_iload_n (pc := 2) C dX12_writes_2 1 rfl rfl ?_
  refine v_callV (pc := 3) C (40, 0) ck_40 rfl (c_X12_isFile hG (x) ) 1 wd_1610 wd_68 wd_1607 wd_1609 wd_45 (by decide +kernel) (by decide) (by decide) rfl ([.ref (A (40, 0))]) rfl (Nat.le_of_ble_eq_true rfl) (by decide) dX12_writes_3 (fun _ _ _ q => q.elim) (fun v9 A9 h9 hR9 => ?_)
  obtain ⟨rfl, hA9, rfl⟩ := hR9
  obtain rfl := hA9.symm
  refine v_st (k2 := 0) (n2 := 0) (st2 := [.int ((V_X12_isFile g (x))), .ref (A (40, 0))]) rfl rfl rfl ?_
  have b_1 := ok_isFile (g := g) (x := x) hf0
  refine v_if_ne (pc := 6) (tgt := 13) C dX12_writes_6 (by decide) (fun c_2 => ?_) (fun c_2 => ?_)
  · skip
    refine v_iload_n (pc := 13) C dX12_writes_13 2 rfl rfl ?_
    refine v_callS (pc := 14) C (c_X12_isPart hG (y) ) 1 wd_1613 wd_68 wd_1611 wd_1612 (by decide +kernel) (by decide) (by decide) rfl ([.ref (A (40, 0))]) rfl (Nat.le_of_ble_eq_true rfl) (by decide) dX12_writes_14 (fun _ _ _ q => q.elim) (fun v9 A9 h9 hR9 => ?_)
    obtain ⟨rfl, hA9, rfl⟩ := hR9
    obtain rfl := hA9.symm
    refine v_st (k2 := 0) (n2 := 0) (st2 := [.int ((V_X12_isPart g (y))), .ref (A (40, 0))]) rfl rfl rfl ?_
    have b_3 := ok_isPart (g := g) (x := y)
    refine v_if_eq (pc := 17) (tgt := 24) C dX12_writes_17 (by decide) (fun c_4 => ?_) (fun c_4 => ?_)
    · skip
      refine v_iconst (v := 2) (pc := 24) C dX12_writes_24 rfl ?_
      refine v_callV (pc := 25) C (40, 0) ck_40 rfl (c_X12_isWrong hG (2) ) 1 wd_1528 wd_68 wd_1525 wd_1527 wd_35 (by decide +kernel) (by decide) (by decide) rfl ([]) rfl (Nat.le_of_ble_eq_true rfl) (by decide) dX12_writes_25 (fun _ _ _ q => q.elim) (fun v9 A9 h9 hR9 => ?_)
      obtain ⟨rfl, hA9, rfl⟩ := hR9
      obtain rfl := hA9.symm
      refine v_st (k2 := 0) (n2 := 0) (st2 := [.int ((V_X12_isWrong g (2)))]) rfl rfl rfl ?_
      refine v_if_eq (pc := 28) (tgt := 35) C dX12_writes_28 (by decide) (fun c_5 => ?_) (fun c_5 => ?_)
      · skip
        exact absurd c_5 (fun q9 => ((show ¬ (1 : Int32) = 0 from by decide)) q9)
      · skip
        refine v_iconst (v := 0) (pc := 31) C dX12_writes_31 rfl ?_
        refine v_goto (tgt := 43) (pc := 32) C dX12_writes_32 (by decide) ?_
        exact v_iret (pc := 43) C (by decide) (by decide) dX12_writes_43 ⟨(congrArg (fun q => some (Value.int q)) (by show _ = _; rw [V_X12_writes, if_neg c_2, if_pos c_4])), rfl, (congrArg (fun q => wm q r) (by show _ = _; rw [S_X12_writes, if_neg c_2, if_pos c_4]))⟩
    · skip
      refine v_iconst (v := 0) (pc := 20) C dX12_writes_20 rfl ?_
      refine v_goto (tgt := 25) (pc := 21) C dX12_writes_21 (by decide) ?_
      refine v_callV (pc := 25) C (40, 0) ck_40 rfl (c_X12_isWrong hG (0) ) 1 wd_1528 wd_68 wd_1525 wd_1527 wd_35 (by decide +kernel) (by decide) (by decide) rfl ([]) rfl (Nat.le_of_ble_eq_true rfl) (by decide) dX12_writes_25 (fun _ _ _ q => q.elim) (fun v9 A9 h9 hR9 => ?_)
      obtain ⟨rfl, hA9, rfl⟩ := hR9
      obtain rfl := hA9.symm
      refine v_st (k2 := 0) (n2 := 0) (st2 := [.int ((V_X12_isWrong g (0)))]) rfl rfl rfl ?_
      refine v_if_eq (pc := 28) (tgt := 35) C dX12_writes_28 (by decide) (fun c_6 => ?_) (fun c_6 => ?_)
      · skip
        refine v_aload_n (pc := 35) C dX12_writes_35 0 rfl rfl ?_
        refine v_get (pc := 36) C (40, 0) (v := .ref (A (62, 0))) ck_40 rfl 20 (by decide) inX12 wd_1405 rfl rfl dX12_writes_36 ?_
        refine v_iload_n (pc := 39) C dX12_writes_39 1 rfl rfl ?_
        refine v_aald (pc := 40) C (62, 0) ck_62 rfl rfl (by (try simp only [Int32.le_iff_toInt_le, Int32.lt_iff_toInt_lt, ← Int32.toInt_inj, vp_in_iff, Int32.reduceToInt] at c_2 c_4 c_6 b_1 b_3 hu hg hf ⊢) <;> omega) (63, (x).toNatClampNeg) rfl dX12_writes_40 ?_
        refine v_iload_n (pc := 41) C dX12_writes_41 2 rfl rfl ?_
        refine v_iald (pc := 42) C (63, (x).toNatClampNeg) (v := (g 63 (x).toNatClampNeg (y).toNatClampNeg)) (ck_63 (g := (S_X12_isWrong g (0))) (tn_lt (by (try simp only [Int32.le_iff_toInt_le, Int32.lt_iff_toInt_lt, ← Int32.toInt_inj, Int32.reduceToInt] at c_2 c_4 c_6 b_1 b_3 hu hg hf ⊢); omega))) (by (try simp only [Int32.le_iff_toInt_le, Int32.lt_iff_toInt_lt, ← Int32.toInt_inj, vp_in_iff, Int32.reduceToInt] at c_2 c_4 c_6 b_1 b_3 hu hg hf ⊢) <;> omega) (F_X12_isWrong (by decide)) dX12_writes_42 ?_
        exact v_iret (pc := 43) C (by decide) (by decide) dX12_writes_43 ⟨(congrArg (fun q => some (Value.int q)) (by show _ = _; rw [V_X12_writes, if_neg c_2, if_neg c_4])), rfl, (congrArg (fun q => wm q r) (by show _ = _; rw [S_X12_writes, if_neg c_2, if_neg c_4]))⟩
      · skip
        exact absurd c_6 (fun q9 => q9 ((show (0 : Int32) = 0 from rfl)))
  · skip
    refine v_iconst (v := 1) (pc := 9) C dX12_writes_9 rfl ?_
    refine v_goto (tgt := 25) (pc := 10) C dX12_writes_10 (by decide) ?_
    refine v_callV (pc := 25) C (40, 0) ck_40 rfl (c_X12_isWrong hG (1) ) 1 wd_1528 wd_68 wd_1525 wd_1527 wd_35 (by decide +kernel) (by decide) (by decide) rfl ([]) rfl (Nat.le_of_ble_eq_true rfl) (by decide) dX12_writes_25 (fun _ _ _ q => q.elim) (fun v9 A9 h9 hR9 => ?_)
    obtain ⟨rfl, hA9, rfl⟩ := hR9
    obtain rfl := hA9.symm
    refine v_st (k2 := 0) (n2 := 0) (st2 := [.int ((V_X12_isWrong g (1)))]) rfl rfl rfl ?_
    refine v_if_eq (pc := 28) (tgt := 35) C dX12_writes_28 (by decide) (fun c_7 => ?_) (fun c_7 => ?_)
    · skip
      exact absurd c_7 (fun q9 => ((show ¬ (1 : Int32) = 0 from by decide)) q9)
    · skip
      refine v_iconst (v := 0) (pc := 31) C dX12_writes_31 rfl ?_
      refine v_goto (tgt := 43) (pc := 32) C dX12_writes_32 (by decide) ?_
      exact v_iret (pc := 43) C (by decide) (by decide) dX12_writes_43 ⟨(congrArg (fun q => some (Value.int q)) (by show _ = _; rw [V_X12_writes, if_pos c_2])), rfl, (congrArg (fun q => wm q r) (by show _ = _; rw [S_X12_writes, if_pos c_2]))⟩
def V_X12_cipher (g : vS) (x : Int32) (y : Int32) : Int32 := (if (V_X12_isNotThere g (1) (x) (y)) = 0 then (g 65 (x).toNatClampNeg (y).toNatClampNeg) else 0)
def S_X12_cipher (g : vS) (x : Int32) (y : Int32) : vS := (S_X12_isNotThere g (1) (x) (y))
theorem F_X12_cipher {g : vS} {x : Int32} {y : Int32} {c i j : Nat} (h1 : c ≠ 1) : S_X12_cipher g x y c i j = g c i j := by
  unfold S_X12_cipher
  (repeat' split) <;> first | rfl | ((simp only [s3_k h1, F_X12_isNotThere h1]) <;> first | done | rfl)
set_option maxHeartbeats 4000000 in
set_option maxRecDepth 100000 in
theorem c_X12_cipher {G : vG} (hG : G.1.stackTraces = false) {A : vN → Nat} {g : vS} {r : vH} (x : Int32) (y : Int32) (hu0 : 0 ≤ (g 2 0 0).toInt) (hu : (g 2 0 0).toInt ≤ 6) (hg0 : 0 ≤ (g 3 0 0).toInt) (hg : (g 3 0 0).toInt ≤ 5) (hf0 : 0 ≤ (g 4 0 0).toInt) (hf : (g 4 0 0).toInt ≤ 20) (h1 : vM1 g) (h2 : vM2 g) (h3 : vM3 g) : vCt G yX12_cipher cX12_cipher 3 (some .int) 3 [.ref (A (40, 0)), .int (x), .int (y)] A (wm g r) (fun v A2 h2 => v = some (.int (V_X12_cipher g x y)) ∧ A2 = A ∧ h2 = wm (S_X12_cipher g x y) r) (vNoX) 0 0 := by
  refine v_of hG (by decide +kernel) (Nat.le_of_ble_eq_true rfl) (lv := [(0, .ref (A (40, 0))), (1, .int (x)), (2, .int (y))]) rfl (fun X C hnx => ?_)
  have C : vC G X cX12_cipher 3 RX12 (some .int) "cipher" 3 0 0 := C
  refine v_aload_n (pc := 0) C dX12_cipher_0 0 rfl rfl ?_
  refine v_iconst (v := 1) (pc := 1) C dX12_cipher_1 rfl ?_
  refine v_iload_n (pc := 2) C dX12_cipher_2 1 rfl rfl ?_
  refine v_iload_n (pc := 3) C dX12_cipher_3 2 rfl rfl ?_
  refine v_callV (pc := 4) C (40, 0) ck_40 rfl (c_X12_isNotThere hG (1) (x) (y) hu0 hu hg0 hg hf0 hf) 3 wd_1637 wd_68 wd_1634 wd_1636 wd_50 (by decide +kernel) (by decide) (by decide) rfl ([]) rfl (Nat.le_of_ble_eq_true rfl) (by decide) dX12_cipher_4 (fun _ _ _ q => q.elim) (fun v9 A9 h9 hR9 => ?_)
  obtain ⟨rfl, hA9, rfl⟩ := hR9
  obtain rfl := hA9.symm
  refine v_st (k2 := 0) (n2 := 0) (st2 := [.int ((V_X12_isNotThere g (1) (x) (y)))]) rfl rfl rfl ?_
  have b_1 := ok_notThere (g := g) (zz := 1) (x := x) (y := y) hf0
  refine v_if_eq (pc := 7) (tgt := 14) C dX12_cipher_7 (by decide) (fun c_2 => ?_) (fun c_2 => ?_)
  · skip
    refine v_aload_n (pc := 14) C dX12_cipher_14 0 rfl rfl ?_
    refine v_get (pc := 15) C (40, 0) (v := .ref (A (64, 0))) ck_40 rfl 21 (by decide) inX12 wd_1406 rfl rfl dX12_cipher_15 ?_
    refine v_iload_n (pc := 18) C dX12_cipher_18 1 rfl rfl ?_
    refine v_aald (pc := 19) C (64, 0) ck_64 rfl rfl (by (try simp only [Int32.le_iff_toInt_le, Int32.lt_iff_toInt_lt, ← Int32.toInt_inj, vp_in_iff, Int32.reduceToInt] at c_2 b_1 hu hg hf ⊢) <;> omega) (65, (x).toNatClampNeg) rfl dX12_cipher_19 ?_
    refine v_iload_n (pc := 20) C dX12_cipher_20 2 rfl rfl ?_
    refine v_iald (pc := 21) C (65, (x).toNatClampNeg) (v := (g 65 (x).toNatClampNeg (y).toNatClampNeg)) (ck_65 (g := (S_X12_isNotThere g (1) (x) (y))) (tn_lt (by (try simp only [Int32.le_iff_toInt_le, Int32.lt_iff_toInt_lt, ← Int32.toInt_inj, Int32.reduceToInt] at c_2 b_1 hu hg hf ⊢); omega))) (by (try simp only [Int32.le_iff_toInt_le, Int32.lt_iff_toInt_lt, ← Int32.toInt_inj, vp_in_iff, Int32.reduceToInt] at c_2 b_1 hu hg hf ⊢) <;> omega) (F_X12_isNotThere (by decide)) dX12_cipher_21 ?_
    exact v_iret (pc := 22) C (by decide) (by decide) dX12_cipher_22 ⟨(congrArg (fun q => some (Value.int q)) (by show _ = _; rw [V_X12_cipher, if_pos c_2])), rfl, (congrArg (fun q => wm q r) (by show _ = _; rw [S_X12_cipher]))⟩
  · skip
    refine v_iconst (v := 0) (pc := 10) C dX12_cipher_10 rfl ?_
    refine v_goto (tgt := 22) (pc := 11) C dX12_cipher_11 (by decide) ?_
    exact v_iret (pc := 22) C (by decide) (by decide) dX12_cipher_22 ⟨(congrArg (fun q => some (Value.int q)) (by show _ = _; rw [V_X12_cipher, if_neg c_2])), rfl, (congrArg (fun q => wm q r) (by show _ = _; rw [S_X12_cipher]))⟩
def V_X12_version (g : vS) (x : Int32) (y : Int32) : Int32 := (if (V_X12_isNotThere g (1) (x) (y)) = 0 then (g 61 (x).toNatClampNeg (y).toNatClampNeg) else 0)
def S_X12_version (g : vS) (x : Int32) (y : Int32) : vS := (S_X12_isNotThere g (1) (x) (y))
theorem F_X12_version {g : vS} {x : Int32} {y : Int32} {c i j : Nat} (h1 : c ≠ 1) : S_X12_version g x y c i j = g c i j := by
  unfold S_X12_version
  (repeat' split) <;> first | rfl | ((simp only [s3_k h1, F_X12_isNotThere h1]) <;> first | done | rfl)
set_option maxHeartbeats 4000000 in
set_option maxRecDepth 100000 in
theorem c_X12_version {G : vG} (hG : G.1.stackTraces = false) {A : vN → Nat} {g : vS} {r : vH} (x : Int32) (y : Int32) (hu0 : 0 ≤ (g 2 0 0).toInt) (hu : (g 2 0 0).toInt ≤ 6) (hg0 : 0 ≤ (g 3 0 0).toInt) (hg : (g 3 0 0).toInt ≤ 5) (hf0 : 0 ≤ (g 4 0 0).toInt) (hf : (g 4 0 0).toInt ≤ 20) (h1 : vM1 g) (h2 : vM2 g) (h3 : vM3 g) : vCt G yX12_version cX12_version 3 (some .int) 3 [.ref (A (40, 0)), .int (x), .int (y)] A (wm g r) (fun v A2 h2 => v = some (.int (V_X12_version g x y)) ∧ A2 = A ∧ h2 = wm (S_X12_version g x y) r) (vNoX) 0 0 := by
  refine v_of hG (by decide +kernel) (Nat.le_of_ble_eq_true rfl) (lv := [(0, .ref (A (40, 0))), (1, .int (x)), (2, .int (y))]) rfl (fun X C hnx => ?_)
  have C : vC G X cX12_version 3 RX12 (some .int) "version" 3 0 0 := C
  refine v_aload_n (pc := 0) C dX12_version_0 0 rfl rfl ?_
  refine v_iconst (v := 1) (pc := 1) C dX12_version_1 rfl ?_
  refine v_iload_n (pc := 2) C dX12_version_2 1 rfl rfl ?_
  refine v_iload_n (pc := 3) C dX12_version_3 2 rfl rfl ?_
  refine v_callV (pc := 4) C (40, 0) ck_40 rfl (c_X12_isNotThere hG (1) (x) (y) hu0 hu hg0 hg hf0 hf) 3 wd_1637 wd_68 wd_1634 wd_1636 wd_50 (by decide +kernel) (by decide) (by decide) rfl ([]) rfl (Nat.le_of_ble_eq_true rfl) (by decide) dX12_version_4 (fun _ _ _ q => q.elim) (fun v9 A9 h9 hR9 => ?_)
  obtain ⟨rfl, hA9, rfl⟩ := hR9
  obtain rfl := hA9.symm
  refine v_st (k2 := 0) (n2 := 0) (st2 := [.int ((V_X12_isNotThere g (1) (x) (y)))]) rfl rfl rfl ?_
  have b_1 := ok_notThere (g := g) (zz := 1) (x := x) (y := y) hf0
  refine v_if_eq (pc := 7) (tgt := 14) C dX12_version_7 (by decide) (fun c_2 => ?_) (fun c_2 => ?_)
  · skip
    refine v_aload_n (pc := 14) C dX12_version_14 0 rfl rfl ?_
    refine v_get (pc := 15) C (40, 0) (v := .ref (A (60, 0))) ck_40 rfl 19 (by decide) inX12 wd_1404 rfl rfl dX12_version_15 ?_
    refine v_iload_n (pc := 18) C dX12_version_18 1 rfl rfl ?_
    refine v_aald (pc := 19) C (60, 0) ck_60 rfl rfl (by (try simp only [Int32.le_iff_toInt_le, Int32.lt_iff_toInt_lt, ← Int32.toInt_inj, vp_in_iff, Int32.reduceToInt] at c_2 b_1 hu hg hf ⊢) <;> omega) (61, (x).toNatClampNeg) rfl dX12_version_19 ?_
    refine v_iload_n (pc := 20) C dX12_version_20 2 rfl rfl ?_
    refine v_iald (pc := 21) C (61, (x).toNatClampNeg) (v := (g 61 (x).toNatClampNeg (y).toNatClampNeg)) (ck_61 (g := (S_X12_isNotThere g (1) (x) (y))) (tn_lt (by (try simp only [Int32.le_iff_toInt_le, Int32.lt_iff_toInt_lt, ← Int32.toInt_inj, Int32.reduceToInt] at c_2 b_1 hu hg hf ⊢); omega))) (by (try simp only [Int32.le_iff_toInt_le, Int32.lt_iff_toInt_lt, ← Int32.toInt_inj, vp_in_iff, Int32.reduceToInt] at c_2 b_1 hu hg hf ⊢) <;> omega) (F_X12_isNotThere (by decide)) dX12_version_21 ?_
    have b_3 := h3 (x).toNatClampNeg (y).toNatClampNeg
    have b_4 := h2 (x).toNatClampNeg
    exact v_iret (pc := 22) C (by decide) (by decide) dX12_version_22 ⟨(congrArg (fun q => some (Value.int q)) (by show _ = _; rw [V_X12_version, if_pos c_2])), rfl, (congrArg (fun q => wm q r) (by show _ = _; rw [S_X12_version]))⟩
  · skip
    refine v_iconst (v := 0) (pc := 10) C dX12_version_10 rfl ?_
    refine v_goto (tgt := 22) (pc := 11) C dX12_version_11 (by decide) ?_
    exact v_iret (pc := 22) C (by decide) (by decide) dX12_version_22 ⟨(congrArg (fun q => some (Value.int q)) (by show _ = _; rw [V_X12_version, if_neg c_2])), rfl, (congrArg (fun q => wm q r) (by show _ = _; rw [S_X12_version]))⟩
def V_X12_spoil (g : vS) (x : Int32) (y : Int32) (z : Int32) : Int32 := (if (V_X12_isNotThere g (1) (x) (y)) = 0 then ((g 65 (x).toNatClampNeg (y).toNatClampNeg) ^^^ z) else 0)
def S_X12_spoil (g : vS) (x : Int32) (y : Int32) (z : Int32) : vS := (if (V_X12_isNotThere g (1) (x) (y)) = 0 then (s3 (S_X12_isNotThere g (1) (x) (y)) 65 (x).toNatClampNeg (y).toNatClampNeg (((g 65 (x).toNatClampNeg (y).toNatClampNeg) ^^^ z))) else (S_X12_isNotThere g (1) (x) (y)))
theorem F_X12_spoil {g : vS} {x : Int32} {y : Int32} {z : Int32} {c i j : Nat} (h1 : c ≠ 1) (h65 : c ≠ 65) : S_X12_spoil g x y z c i j = g c i j := by
  unfold S_X12_spoil
  (repeat' split) <;> first | rfl | ((simp only [s3_k h1, s3_k h65, F_X12_isNotThere h1]) <;> first | done | rfl)
set_option maxHeartbeats 4000000 in
set_option maxRecDepth 100000 in
theorem c_X12_spoil {G : vG} (hG : G.1.stackTraces = false) {A : vN → Nat} {g : vS} {r : vH} (x : Int32) (y : Int32) (z : Int32) (hu0 : 0 ≤ (g 2 0 0).toInt) (hu : (g 2 0 0).toInt ≤ 6) (hg0 : 0 ≤ (g 3 0 0).toInt) (hg : (g 3 0 0).toInt ≤ 5) (hf0 : 0 ≤ (g 4 0 0).toInt) (hf : (g 4 0 0).toInt ≤ 20) (h1 : vM1 g) (h2 : vM2 g) (h3 : vM3 g) : vCt G yX12_spoil cX12_spoil 4 (some .int) 3 [.ref (A (40, 0)), .int (x), .int (y), .int (z)] A (wm g r) (fun v A2 h2 => v = some (.int (V_X12_spoil g x y z)) ∧ A2 = A ∧ h2 = wm (S_X12_spoil g x y z) r) (vNoX) 0 0 := by
  refine v_of hG (by decide +kernel) (Nat.le_of_ble_eq_true rfl) (lv := [(0, .ref (A (40, 0))), (1, .int (x)), (2, .int (y)), (3, .int (z))]) rfl (fun X C hnx => ?_)
  have C : vC G X cX12_spoil 4 RX12 (some .int) "spoil" 3 0 0 := C
  refine v_aload_n (pc := 0) C dX12_spoil_0 0 rfl rfl ?_
  refine v_iconst (v := 1) (pc := 1) C dX12_spoil_1 rfl ?_
  refine v_iload_n (pc := 2) C dX12_spoil_2 1 rfl rfl ?_
  refine v_iload_n (pc := 3) C dX12_spoil_3 2 rfl rfl ?_
  refine v_callV (pc := 4) C (40, 0) ck_40 rfl (c_X12_isNotThere hG (1) (x) (y) hu0 hu hg0 hg hf0 hf) 3 wd_1637 wd_68 wd_1634 wd_1636 wd_50 (by decide +kernel) (by decide) (by decide) rfl ([]) rfl (Nat.le_of_ble_eq_true rfl) (by decide) dX12_spoil_4 (fun _ _ _ q => q.elim) (fun v9 A9 h9 hR9 => ?_)
  obtain ⟨rfl, hA9, rfl⟩ := hR9
  obtain rfl := hA9.symm
  refine v_st (k2 := 0) (n2 := 0) (st2 := [.int ((V_X12_isNotThere g (1) (x) (y)))]) rfl rfl rfl ?_
  have b_1 := ok_notThere (g := g) (zz := 1) (x := x) (y := y) hf0
  refine v_if_eq (pc := 7) (tgt := 12) C dX12_spoil_7 (by decide) (fun c_2 => ?_) (fun c_2 => ?_)
  · skip
    refine v_aload_n (pc := 12) C dX12_spoil_12 0 rfl rfl ?_
    refine v_get (pc := 13) C (40, 0) (v := .ref (A (64, 0))) ck_40 rfl 21 (by decide) inX12 wd_1406 rfl rfl dX12_spoil_13 ?_
    refine v_iload_n (pc := 16) C dX12_spoil_16 1 rfl rfl ?_
    refine v_aald (pc := 17) C (64, 0) ck_64 rfl rfl (by (try simp only [Int32.le_iff_toInt_le, Int32.lt_iff_toInt_lt, ← Int32.toInt_inj, vp_in_iff, Int32.reduceToInt] at c_2 b_1 hu hg hf ⊢) <;> omega) (65, (x).toNatClampNeg) rfl dX12_spoil_17 ?_
    refine v_iload_n (pc := 18) C dX12_spoil_18 2 rfl rfl ?_
    refine v_dup2_11 (pc := 19) C dX12_spoil_19 rfl rfl ?_
    refine v_iald (pc := 20) C (65, (x).toNatClampNeg) (v := (g 65 (x).toNatClampNeg (y).toNatClampNeg)) (ck_65 (g := (S_X12_isNotThere g (1) (x) (y))) (tn_lt (by (try simp only [Int32.le_iff_toInt_le, Int32.lt_iff_toInt_lt, ← Int32.toInt_inj, Int32.reduceToInt] at c_2 b_1 hu hg hf ⊢); omega))) (by (try simp only [Int32.le_iff_toInt_le, Int32.lt_iff_toInt_lt, ← Int32.toInt_inj, vp_in_iff, Int32.reduceToInt] at c_2 b_1 hu hg hf ⊢) <;> omega) (F_X12_isNotThere (by decide)) dX12_spoil_20 ?_
    refine v_iload_n (pc := 21) C dX12_spoil_21 3 rfl rfl ?_
    refine v_ixor (pc := 22) C dX12_spoil_22 ?_
    refine v_iast (pc := 23) C (65, (x).toNatClampNeg) (x := ((g 65 (x).toNatClampNeg (y).toNatClampNeg) ^^^ z)) (ck_65 (g := (S_X12_isNotThere g (1) (x) (y))) (tn_lt (by (try simp only [Int32.le_iff_toInt_le, Int32.lt_iff_toInt_lt, ← Int32.toInt_inj, Int32.reduceToInt] at c_2 b_1 hu hg hf ⊢); omega))) (by (try simp only [Int32.le_iff_toInt_le, Int32.lt_iff_toInt_lt, ← Int32.toInt_inj, vp_in_iff, Int32.reduceToInt] at c_2 b_1 hu hg hf ⊢) <;> omega) dX12_spoil_23 ?_
    refine v_h (h2 := (wm (s3 (S_X12_isNotThere g (1) (x) (y)) 65 (x).toNatClampNeg (y).toNatClampNeg (((g 65 (x).toNatClampNeg (y).toNatClampNeg) ^^^ z))) r)) (u_65_a (g := (S_X12_isNotThere g (1) (x) (y))) (tn_lt (by (try simp only [Int32.le_iff_toInt_le, Int32.lt_iff_toInt_lt, ← Int32.toInt_inj, Int32.reduceToInt] at c_2 b_1 hu hg hf ⊢); omega))) ?_
    refine v_aload_n (pc := 24) C dX12_spoil_24 0 rfl rfl ?_
    refine v_get (pc := 25) C (40, 0) (v := .ref (A (64, 0))) ck_40 rfl 21 (by decide) inX12 wd_1406 rfl rfl dX12_spoil_25 ?_
    refine v_iload_n (pc := 28) C dX12_spoil_28 1 rfl rfl ?_
    refine v_aald (pc := 29) C (64, 0) ck_64 rfl rfl (by (try simp only [Int32.le_iff_toInt_le, Int32.lt_iff_toInt_lt, ← Int32.toInt_inj, vp_in_iff, Int32.reduceToInt] at c_2 b_1 hu hg hf ⊢) <;> omega) (65, (x).toNatClampNeg) rfl dX12_spoil_29 ?_
    refine v_iload_n (pc := 30) C dX12_spoil_30 2 rfl rfl ?_
    refine v_iald (pc := 31) C (65, (x).toNatClampNeg) (v := ((g 65 (x).toNatClampNeg (y).toNatClampNeg) ^^^ z)) (ck_65 (g := (s3 (S_X12_isNotThere g (1) (x) (y)) 65 (x).toNatClampNeg (y).toNatClampNeg (((g 65 (x).toNatClampNeg (y).toNatClampNeg) ^^^ z)))) (tn_lt (by (try simp only [Int32.le_iff_toInt_le, Int32.lt_iff_toInt_lt, ← Int32.toInt_inj, Int32.reduceToInt] at c_2 b_1 hu hg hf ⊢); omega))) (by (try simp only [Int32.le_iff_toInt_le, Int32.lt_iff_toInt_lt, ← Int32.toInt_inj, vp_in_iff, Int32.reduceToInt] at c_2 b_1 hu hg hf ⊢) <;> omega) (s3_s) dX12_spoil_31 ?_
    exact v_iret (pc := 32) C (by decide) (by decide) dX12_spoil_32 ⟨(congrArg (fun q => some (Value.int q)) (by show _ = _; rw [V_X12_spoil, if_pos c_2])), rfl, (congrArg (fun q => wm q r) (by show _ = _; rw [S_X12_spoil, if_pos c_2]))⟩
  · skip
    refine v_iconst (v := 0) (pc := 10) C dX12_spoil_10 rfl ?_
    exact v_iret (pc := 11) C (by decide) (by decide) dX12_spoil_11 ⟨(congrArg (fun q => some (Value.int q)) (by show _ = _; rw [V_X12_spoil, if_neg c_2])), rfl, (congrArg (fun q => wm q r) (by show _ = _; rw [S_X12_spoil, if_neg c_2]))⟩
def V_X12_read (g : vS) (u : Int32) (x : Int32) (y : Int32) : Int32 := (if (V_X12_isNotThere g ((V_X12_isUser g (u))) (x) (y)) = 0 then (if (g 68 (x).toNatClampNeg 0) = 0 then (if (V_X12_isSpoiled (S_X12_isNotThere g ((V_X12_isUser g (u))) (x) (y)) (x)) = 0 then (if (V_X12_reads (S_X12_isNotThere g ((V_X12_isUser g (u))) (x) (y)) (u) (x) (y)) = 0 then 0 else pUnseal ((g 65 (x).toNatClampNeg (y).toNatClampNeg)) ((V_X12_keyOf (S_X12_isWrong (S_X12_isNotThere g ((V_X12_isUser g (u))) (x) (y)) (0)) (x) ((g 61 (x).toNatClampNeg (y).toNatClampNeg)) (y)))) else 0) else 0) else 0)
def S_X12_read (g : vS) (u : Int32) (x : Int32) (y : Int32) : vS := (if (V_X12_isNotThere g ((V_X12_isUser g (u))) (x) (y)) = 0 then (if (g 68 (x).toNatClampNeg 0) = 0 then (if (V_X12_isSpoiled (S_X12_isNotThere g ((V_X12_isUser g (u))) (x) (y)) (x)) = 0 then (if (V_X12_reads (S_X12_isNotThere g ((V_X12_isUser g (u))) (x) (y)) (u) (x) (y)) = 0 then (S_X12_isWrong (S_X12_isNotThere g ((V_X12_isUser g (u))) (x) (y)) (4)) else (S_X12_isWrong (S_X12_isNotThere g ((V_X12_isUser g (u))) (x) (y)) (0))) else (S_X12_isWrong (S_X12_isNotThere g ((V_X12_isUser g (u))) (x) (y)) (3))) else (S_X12_isWrong (S_X12_isNotThere g ((V_X12_isUser g (u))) (x) (y)) (3))) else (S_X12_isNotThere g ((V_X12_isUser g (u))) (x) (y)))
theorem F_X12_read {g : vS} {u : Int32} {x : Int32} {y : Int32} {c i j : Nat} (h1 : c ≠ 1) : S_X12_read g u x y c i j = g c i j := by
  unfold S_X12_read
  (repeat' split) <;> first | rfl | ((simp only [s3_k h1, F_X12_isNotThere h1, F_X12_isWrong h1]) <;> first | done | rfl)
set_option maxHeartbeats 4000000 in
set_option maxRecDepth 100000 in
theorem c_X12_read {G : vG} (hG : G.1.stackTraces = false) {A : vN → Nat} {g : vS} {r : vH} (u : Int32) (x : Int32) (y : Int32) (hu0 : 0 ≤ (g 2 0 0).toInt) (hu : (g 2 0 0).toInt ≤ 6) (hg0 : 0 ≤ (g 3 0 0).toInt) (hg : (g 3 0 0).toInt ≤ 5) (hf0 : 0 ≤ (g 4 0 0).toInt) (hf : (g 4 0 0).toInt ≤ 20) (h1 : vM1 g) (h2 : vM2 g) (h3 : vM3 g) : vCt G yX12_read cX12_read 4 (some .int) 4 [.ref (A (40, 0)), .int (u), .int (x), .int (y)] A (wm g r) (fun v A2 h2 => v = some (.int (V_X12_read g u x y)) ∧ A2 = A ∧ h2 = wm (S_X12_read g u x y) r) (vNoX) 0 0 := by
  refine v_of hG (by decide +kernel) (Nat.le_of_ble_eq_true rfl) (lv := [(0, .ref (A (40, 0))), (1, .int (u)), (2, .int (x)), (3, .int (y))]) rfl (fun X C hnx => ?_)
  have C : vC G X cX12_read 4 RX12 (some .int) "read" 4 0 0 := C
  refine v_aload_n (pc := 0) C dX12_read_0 0 rfl rfl ?_
  refine v_aload_n (pc := 1) C dX12_read_1 0 rfl rfl ?_
  refine v_iload_n (pc := 2) C dX12_read_2 1 rfl rfl ?_
  refine v_callV (pc := 3) C (40, 0) ck_40 rfl (c_X12_isUser hG (u) ) 1 wd_1536 wd_68 wd_1533 wd_1535 wd_36 (by decide +kernel) (by decide) (by decide) rfl ([.ref (A (40, 0))]) rfl (Nat.le_of_ble_eq_true rfl) (by decide) dX12_read_3 (fun _ _ _ q => q.elim) (fun v9 A9 h9 hR9 => ?_)
  obtain ⟨rfl, hA9, rfl⟩ := hR9
  obtain rfl := hA9.symm
  refine v_st (k2 := 0) (n2 := 0) (st2 := [.int ((V_X12_isUser g (u))), .ref (A (40, 0))]) rfl rfl rfl ?_
  have b_1 := ok_isUser (g := g) (x := u) hu0
  refine v_iload_n (pc := 6) C dX12_read_6 2 rfl rfl ?_
  refine v_iload_n (pc := 7) C dX12_read_7 3 rfl rfl ?_
  refine v_callV (pc := 8) C (40, 0) ck_40 rfl (c_X12_isNotThere hG ((V_X12_isUser g (u))) (x) (y) hu0 hu hg0 hg hf0 hf) 3 wd_1637 wd_68 wd_1634 wd_1636 wd_50 (by decide +kernel) (by decide) (by decide) rfl ([]) rfl (Nat.le_of_ble_eq_true rfl) (by decide) dX12_read_8 (fun _ _ _ q => q.elim) (fun v9 A9 h9 hR9 => ?_)
  obtain ⟨rfl, hA9, rfl⟩ := hR9
  obtain rfl := hA9.symm
  refine v_st (k2 := 0) (n2 := 0) (st2 := [.int ((V_X12_isNotThere g ((V_X12_isUser g (u))) (x) (y)))]) rfl rfl rfl ?_
  have b_2 := ok_notThere (g := g) (zz := (V_X12_isUser g (u))) (x := x) (y := y) hf0
  refine v_if_eq (pc := 11) (tgt := 16) C dX12_read_11 (by decide) (fun c_3 => ?_) (fun c_3 => ?_)
  · skip
    refine v_aload_n (pc := 16) C dX12_read_16 0 rfl rfl ?_
    refine v_aload_n (pc := 17) C dX12_read_17 0 rfl rfl ?_
    refine v_get (pc := 18) C (40, 0) (v := .ref (A (68, 0))) ck_40 rfl 23 (by decide) inX12 wd_1408 rfl rfl dX12_read_18 ?_
    refine v_iload_n (pc := 21) C dX12_read_21 2 rfl rfl ?_
    refine v_zald (pc := 22) C (68, 0) (v := (g 68 (x).toNatClampNeg 0)) ck_68 (by (try simp only [Int32.le_iff_toInt_le, Int32.lt_iff_toInt_lt, ← Int32.toInt_inj, vp_in_iff, Int32.reduceToInt] at c_3 b_1 b_2 hu hg hf ⊢) <;> omega) (F_X12_isNotThere (by decide)) dX12_read_22 ?_
    refine v_if_ne (pc := 23) (tgt := 34) C dX12_read_23 (by decide) (fun c_4 => ?_) (fun c_4 => ?_)
    · skip
      refine v_iconst (v := 3) (pc := 34) C dX12_read_34 rfl ?_
      refine v_goto (tgt := 53) (pc := 35) C dX12_read_35 (by decide) ?_
      refine v_callV (pc := 53) C (40, 0) ck_40 rfl (c_X12_isWrong hG (3) ) 1 wd_1528 wd_68 wd_1525 wd_1527 wd_35 (by decide +kernel) (by decide) (by decide) rfl ([]) rfl (Nat.le_of_ble_eq_true rfl) (by decide) dX12_read_53 (fun _ _ _ q => q.elim) (fun v9 A9 h9 hR9 => ?_)
      obtain ⟨rfl, hA9, rfl⟩ := hR9
      obtain rfl := hA9.symm
      refine v_st (k2 := 0) (n2 := 0) (st2 := [.int ((V_X12_isWrong (S_X12_isNotThere g ((V_X12_isUser g (u))) (x) (y)) (3)))]) rfl rfl rfl ?_
      refine v_if_eq (pc := 56) (tgt := 61) C dX12_read_56 (by decide) (fun c_5 => ?_) (fun c_5 => ?_)
      · skip
        exact absurd c_5 (fun q9 => ((show ¬ (1 : Int32) = 0 from by decide)) q9)
      · skip
        refine v_iconst (v := 0) (pc := 59) C dX12_read_59 rfl ?_
        exact v_iret (pc := 60) C (by decide) (by decide) dX12_read_60 ⟨(congrArg (fun q => some (Value.int q)) (by show _ = _; rw [V_X12_read, if_pos c_3, if_neg c_4])), rfl, (congrArg (fun q => wm q r) (by show _ = _; rw [S_X12_read, if_pos c_3, if_neg c_4]))⟩
    · skip
      refine v_aload_n (pc := 26) C dX12_read_26 0 rfl rfl ?_
      refine v_iload_n (pc := 27) C dX12_read_27 2 rfl rfl ?_
      refine v_callV (pc := 28) C (40, 0) ck_40 rfl (c_X12_isSpoiled hG (x) (by rw [show (S_X12_isNotThere g ((V_X12_isUser g (u))) (x) (y)) 2 0 0 = g 2 0 0 from F_X12_isNotThere (by decide)]; exact hu0) (by rw [show (S_X12_isNotThere g ((V_X12_isUser g (u))) (x) (y)) 2 0 0 = g 2 0 0 from F_X12_isNotThere (by decide)]; exact hu) (by rw [show (S_X12_isNotThere g ((V_X12_isUser g (u))) (x) (y)) 3 0 0 = g 3 0 0 from F_X12_isNotThere (by decide)]; exact hg0) (by rw [show (S_X12_isNotThere g ((V_X12_isUser g (u))) (x) (y)) 3 0 0 = g 3 0 0 from F_X12_isNotThere (by decide)]; exact hg) (by rw [show (S_X12_isNotThere g ((V_X12_isUser g (u))) (x) (y)) 4 0 0 = g 4 0 0 from F_X12_isNotThere (by decide)]; exact hf0) (by rw [show (S_X12_isNotThere g ((V_X12_isUser g (u))) (x) (y)) 4 0 0 = g 4 0 0 from F_X12_isNotThere (by decide)]; exact hf) (by (try simp only [Int32.le_iff_toInt_le, Int32.lt_iff_toInt_lt, ← Int32.toInt_inj, Int32.reduceToInt] at c_3 c_4 b_1 b_2 hu hg hf ⊢); omega) (by (try simp only [Int32.le_iff_toInt_le, Int32.lt_iff_toInt_lt, ← Int32.toInt_inj, Int32.reduceToInt] at c_3 c_4 b_1 b_2 hu hg hf ⊢); omega)) 1 wd_1567 wd_68 wd_1564 wd_1566 wd_40 (by decide +kernel) (by decide) (by decide) rfl ([.ref (A (40, 0))]) rfl (Nat.le_of_ble_eq_true rfl) (by decide) dX12_read_28 (fun _ _ _ q => q.elim) (fun v9 A9 h9 hR9 => ?_)
      obtain ⟨rfl, hA9, rfl⟩ := hR9
      obtain rfl := hA9.symm
      refine v_st (k2 := 0) (n2 := 0) (st2 := [.int ((V_X12_isSpoiled (S_X12_isNotThere g ((V_X12_isUser g (u))) (x) (y)) (x))), .ref (A (40, 0))]) rfl rfl rfl ?_
      refine v_if_eq (pc := 31) (tgt := 38) C dX12_read_31 (by decide) (fun c_6 => ?_) (fun c_6 => ?_)
      · skip
        refine v_aload_n (pc := 38) C dX12_read_38 0 rfl rfl ?_
        refine v_iload_n (pc := 39) C dX12_read_39 1 rfl rfl ?_
        refine v_iload_n (pc := 40) C dX12_read_40 2 rfl rfl ?_
        refine v_iload_n (pc := 41) C dX12_read_41 3 rfl rfl ?_
        refine v_callV (pc := 42) C (40, 0) ck_40 rfl (c_X12_reads hG (u) (x) (y) (by rw [show (S_X12_isNotThere g ((V_X12_isUser g (u))) (x) (y)) 2 0 0 = g 2 0 0 from F_X12_isNotThere (by decide)]; exact hu0) (by rw [show (S_X12_isNotThere g ((V_X12_isUser g (u))) (x) (y)) 2 0 0 = g 2 0 0 from F_X12_isNotThere (by decide)]; exact hu) (by rw [show (S_X12_isNotThere g ((V_X12_isUser g (u))) (x) (y)) 3 0 0 = g 3 0 0 from F_X12_isNotThere (by decide)]; exact hg0) (by rw [show (S_X12_isNotThere g ((V_X12_isUser g (u))) (x) (y)) 3 0 0 = g 3 0 0 from F_X12_isNotThere (by decide)]; exact hg) (by rw [show (S_X12_isNotThere g ((V_X12_isUser g (u))) (x) (y)) 4 0 0 = g 4 0 0 from F_X12_isNotThere (by decide)]; exact hf0) (by rw [show (S_X12_isNotThere g ((V_X12_isUser g (u))) (x) (y)) 4 0 0 = g 4 0 0 from F_X12_isNotThere (by decide)]; exact hf) (by (try simp only [Int32.le_iff_toInt_le, Int32.lt_iff_toInt_lt, ← Int32.toInt_inj, Int32.reduceToInt] at c_3 c_4 c_6 b_1 b_2 hu hg hf ⊢); omega) (by (try simp only [Int32.le_iff_toInt_le, Int32.lt_iff_toInt_lt, ← Int32.toInt_inj, Int32.reduceToInt] at c_3 c_4 c_6 b_1 b_2 hu hg hf ⊢); omega) (by (try simp only [Int32.le_iff_toInt_le, Int32.lt_iff_toInt_lt, ← Int32.toInt_inj, Int32.reduceToInt] at c_3 c_4 c_6 b_1 b_2 hu hg hf ⊢); omega) (by (try simp only [Int32.le_iff_toInt_le, Int32.lt_iff_toInt_lt, ← Int32.toInt_inj, Int32.reduceToInt] at c_3 c_4 c_6 b_1 b_2 hu hg hf ⊢); omega) (by (try simp only [Int32.le_iff_toInt_le, Int32.lt_iff_toInt_lt, ← Int32.toInt_inj, Int32.reduceToInt] at c_3 c_4 c_6 b_1 b_2 hu hg hf ⊢); omega) (by (try simp only [Int32.le_iff_toInt_le, Int32.lt_iff_toInt_lt, ← Int32.toInt_inj, Int32.reduceToInt] at c_3 c_4 c_6 b_1 b_2 hu hg hf ⊢); omega) (vM1_k (fun _ _ => F_X12_isNotThere (by decide)) h1) (vM2_k (fun _ _ => F_X12_isNotThere (by decide)) (fun _ _ => F_X12_isNotThere (by decide)) h2) (vM3_k (fun _ _ => F_X12_isNotThere (by decide)) (fun _ _ => F_X12_isNotThere (by decide)) h3)) 3 wd_1641 wd_68 wd_1638 wd_1640 wd_51 (by decide +kernel) (by decide) (by decide) rfl ([.ref (A (40, 0))]) rfl (Nat.le_of_ble_eq_true rfl) (by decide) dX12_read_42 (fun _ _ _ q => q.elim) (fun v9 A9 h9 hR9 => ?_)
        obtain ⟨rfl, hA9, rfl⟩ := hR9
        obtain rfl := hA9.symm
        refine v_st (k2 := 0) (n2 := 0) (st2 := [.int ((V_X12_reads (S_X12_isNotThere g ((V_X12_isUser g (u))) (x) (y)) (u) (x) (y))), .ref (A (40, 0))]) rfl rfl rfl ?_
        refine v_if_eq (pc := 45) (tgt := 52) C dX12_read_45 (by decide) (fun c_7 => ?_) (fun c_7 => ?_)
        · skip
          refine v_iconst (v := 4) (pc := 52) C dX12_read_52 rfl ?_
          refine v_callV (pc := 53) C (40, 0) ck_40 rfl (c_X12_isWrong hG (4) ) 1 wd_1528 wd_68 wd_1525 wd_1527 wd_35 (by decide +kernel) (by decide) (by decide) rfl ([]) rfl (Nat.le_of_ble_eq_true rfl) (by decide) dX12_read_53 (fun _ _ _ q => q.elim) (fun v9 A9 h9 hR9 => ?_)
          obtain ⟨rfl, hA9, rfl⟩ := hR9
          obtain rfl := hA9.symm
          refine v_st (k2 := 0) (n2 := 0) (st2 := [.int ((V_X12_isWrong (S_X12_isNotThere g ((V_X12_isUser g (u))) (x) (y)) (4)))]) rfl rfl rfl ?_
          refine v_if_eq (pc := 56) (tgt := 61) C dX12_read_56 (by decide) (fun c_8 => ?_) (fun c_8 => ?_)
          · skip
            exact absurd c_8 (fun q9 => ((show ¬ (1 : Int32) = 0 from by decide)) q9)
          · skip
            refine v_iconst (v := 0) (pc := 59) C dX12_read_59 rfl ?_
            exact v_iret (pc := 60) C (by decide) (by decide) dX12_read_60 ⟨(congrArg (fun q => some (Value.int q)) (by show _ = _; rw [V_X12_read, if_pos c_3, if_pos c_4, if_pos c_6, if_pos c_7])), rfl, (congrArg (fun q => wm q r) (by show _ = _; rw [S_X12_read, if_pos c_3, if_pos c_4, if_pos c_6, if_pos c_7]))⟩
        · skip
          refine v_iconst (v := 0) (pc := 48) C dX12_read_48 rfl ?_
          refine v_goto (tgt := 53) (pc := 49) C dX12_read_49 (by decide) ?_
          refine v_callV (pc := 53) C (40, 0) ck_40 rfl (c_X12_isWrong hG (0) ) 1 wd_1528 wd_68 wd_1525 wd_1527 wd_35 (by decide +kernel) (by decide) (by decide) rfl ([]) rfl (Nat.le_of_ble_eq_true rfl) (by decide) dX12_read_53 (fun _ _ _ q => q.elim) (fun v9 A9 h9 hR9 => ?_)
          obtain ⟨rfl, hA9, rfl⟩ := hR9
          obtain rfl := hA9.symm
          refine v_st (k2 := 0) (n2 := 0) (st2 := [.int ((V_X12_isWrong (S_X12_isNotThere g ((V_X12_isUser g (u))) (x) (y)) (0)))]) rfl rfl rfl ?_
          refine v_if_eq (pc := 56) (tgt := 61) C dX12_read_56 (by decide) (fun c_9 => ?_) (fun c_9 => ?_)
          · skip
            refine v_aload_n (pc := 61) C dX12_read_61 0 rfl rfl ?_
            refine v_get (pc := 62) C (40, 0) (v := .ref (A (64, 0))) ck_40 rfl 21 (by decide) inX12 wd_1406 rfl rfl dX12_read_62 ?_
            refine v_iload_n (pc := 65) C dX12_read_65 2 rfl rfl ?_
            refine v_aald (pc := 66) C (64, 0) ck_64 rfl rfl (by (try simp only [Int32.le_iff_toInt_le, Int32.lt_iff_toInt_lt, ← Int32.toInt_inj, vp_in_iff, Int32.reduceToInt] at c_3 c_4 c_6 c_7 c_9 b_1 b_2 hu hg hf ⊢) <;> omega) (65, (x).toNatClampNeg) rfl dX12_read_66 ?_
            refine v_iload_n (pc := 67) C dX12_read_67 3 rfl rfl ?_
            refine v_iald (pc := 68) C (65, (x).toNatClampNeg) (v := (g 65 (x).toNatClampNeg (y).toNatClampNeg)) (ck_65 (g := (S_X12_isWrong (S_X12_isNotThere g ((V_X12_isUser g (u))) (x) (y)) (0))) (tn_lt (by (try simp only [Int32.le_iff_toInt_le, Int32.lt_iff_toInt_lt, ← Int32.toInt_inj, Int32.reduceToInt] at c_3 c_4 c_6 c_7 c_9 b_1 b_2 hu hg hf ⊢); omega))) (by (try simp only [Int32.le_iff_toInt_le, Int32.lt_iff_toInt_lt, ← Int32.toInt_inj, vp_in_iff, Int32.reduceToInt] at c_3 c_4 c_6 c_7 c_9 b_1 b_2 hu hg hf ⊢) <;> omega) ((F_X12_isWrong (by decide)).trans (F_X12_isNotThere (by decide))) dX12_read_68 ?_
            refine v_iload_n (pc := 69) C dX12_read_69 2 rfl rfl ?_
            refine v_aload_n (pc := 70) C dX12_read_70 0 rfl rfl ?_
            refine v_get (pc := 71) C (40, 0) (v := .ref (A (60, 0))) ck_40 rfl 19 (by decide) inX12 wd_1404 rfl rfl dX12_read_71 ?_
            refine v_iload_n (pc := 74) C dX12_read_74 2 rfl rfl ?_
            refine v_aald (pc := 75) C (60, 0) ck_60 rfl rfl (by (try simp only [Int32.le_iff_toInt_le, Int32.lt_iff_toInt_lt, ← Int32.toInt_inj, vp_in_iff, Int32.reduceToInt] at c_3 c_4 c_6 c_7 c_9 b_1 b_2 hu hg hf ⊢) <;> omega) (61, (x).toNatClampNeg) rfl dX12_read_75 ?_
            refine v_iload_n (pc := 76) C dX12_read_76 3 rfl rfl ?_
            refine v_iald (pc := 77) C (61, (x).toNatClampNeg) (v := (g 61 (x).toNatClampNeg (y).toNatClampNeg)) (ck_61 (g := (S_X12_isWrong (S_X12_isNotThere g ((V_X12_isUser g (u))) (x) (y)) (0))) (tn_lt (by (try simp only [Int32.le_iff_toInt_le, Int32.lt_iff_toInt_lt, ← Int32.toInt_inj, Int32.reduceToInt] at c_3 c_4 c_6 c_7 c_9 b_1 b_2 hu hg hf ⊢); omega))) (by (try simp only [Int32.le_iff_toInt_le, Int32.lt_iff_toInt_lt, ← Int32.toInt_inj, vp_in_iff, Int32.reduceToInt] at c_3 c_4 c_6 c_7 c_9 b_1 b_2 hu hg hf ⊢) <;> omega) ((F_X12_isWrong (by decide)).trans (F_X12_isNotThere (by decide))) dX12_read_77 ?_
            have b_10 := h3 (x).toNatClampNeg (y).toNatClampNeg
            have b_11 := h2 (x).toNatClampNeg
            refine v_iload_n (pc := 78) C dX12_read_78 3 rfl rfl ?_
            refine v_callS (pc := 79) C (c_X12_keyOf hG (x) ((g 61 (x).toNatClampNeg (y).toNatClampNeg)) (y) ) 3 wd_1582 wd_68 wd_1580 wd_1581 (by decide +kernel) (by decide) (by decide) rfl ([.int ((g 65 (x).toNatClampNeg (y).toNatClampNeg))]) rfl (Nat.le_of_ble_eq_true rfl) (by decide) dX12_read_79 (fun _ _ _ q => q.elim) (fun v9 A9 h9 hR9 => ?_)
            obtain ⟨rfl, hA9, rfl⟩ := hR9
            obtain rfl := hA9.symm
            refine v_st (k2 := 0) (n2 := 0) (st2 := [.int ((V_X12_keyOf (S_X12_isWrong (S_X12_isNotThere g ((V_X12_isUser g (u))) (x) (y)) (0)) (x) ((g 61 (x).toNatClampNeg (y).toNatClampNeg)) (y))), .int ((g 65 (x).toNatClampNeg (y).toNatClampNeg))]) rfl rfl rfl ?_
            refine v_callS (pc := 82) C (c_X12_opens hG ((g 65 (x).toNatClampNeg (y).toNatClampNeg)) ((V_X12_keyOf (S_X12_isWrong (S_X12_isNotThere g ((V_X12_isUser g (u))) (x) (y)) (0)) (x) ((g 61 (x).toNatClampNeg (y).toNatClampNeg)) (y)))) 2 wd_1644 wd_68 wd_1642 wd_1643 (by decide +kernel) (by decide) (by decide) rfl ([]) rfl (Nat.le_of_ble_eq_true rfl) (by decide) dX12_read_82 (fun _ _ _ q => q.elim) (fun v9 A9 h9 hR9 => ?_)
            obtain ⟨rfl, hA9, rfl⟩ := hR9
            obtain rfl := hA9.symm
            refine v_st (k2 := 0) (n2 := 0) (st2 := [.int (pUnseal ((g 65 (x).toNatClampNeg (y).toNatClampNeg)) ((V_X12_keyOf (S_X12_isWrong (S_X12_isNotThere g ((V_X12_isUser g (u))) (x) (y)) (0)) (x) ((g 61 (x).toNatClampNeg (y).toNatClampNeg)) (y))))]) rfl rfl rfl ?_
            exact v_iret (pc := 85) C (by decide) (by decide) dX12_read_85 ⟨(congrArg (fun q => some (Value.int q)) (by show _ = _; rw [V_X12_read, if_pos c_3, if_pos c_4, if_pos c_6, if_neg c_7])), rfl, (congrArg (fun q => wm q r) (by show _ = _; rw [S_X12_read, if_pos c_3, if_pos c_4, if_pos c_6, if_neg c_7]))⟩
          · skip
            exact absurd c_9 (fun q9 => q9 ((show (0 : Int32) = 0 from rfl)))
      · skip
        refine v_iconst (v := 3) (pc := 34) C dX12_read_34 rfl ?_
        refine v_goto (tgt := 53) (pc := 35) C dX12_read_35 (by decide) ?_
        refine v_callV (pc := 53) C (40, 0) ck_40 rfl (c_X12_isWrong hG (3) ) 1 wd_1528 wd_68 wd_1525 wd_1527 wd_35 (by decide +kernel) (by decide) (by decide) rfl ([]) rfl (Nat.le_of_ble_eq_true rfl) (by decide) dX12_read_53 (fun _ _ _ q => q.elim) (fun v9 A9 h9 hR9 => ?_)
        obtain ⟨rfl, hA9, rfl⟩ := hR9
        obtain rfl := hA9.symm
        refine v_st (k2 := 0) (n2 := 0) (st2 := [.int ((V_X12_isWrong (S_X12_isNotThere g ((V_X12_isUser g (u))) (x) (y)) (3)))]) rfl rfl rfl ?_
        refine v_if_eq (pc := 56) (tgt := 61) C dX12_read_56 (by decide) (fun c_12 => ?_) (fun c_12 => ?_)
        · skip
          exact absurd c_12 (fun q9 => ((show ¬ (1 : Int32) = 0 from by decide)) q9)
        · skip
          refine v_iconst (v := 0) (pc := 59) C dX12_read_59 rfl ?_
          exact v_iret (pc := 60) C (by decide) (by decide) dX12_read_60 ⟨(congrArg (fun q => some (Value.int q)) (by show _ = _; rw [V_X12_read, if_pos c_3, if_pos c_4, if_neg c_6])), rfl, (congrArg (fun q => wm q r) (by show _ = _; rw [S_X12_read, if_pos c_3, if_pos c_4, if_neg c_6]))⟩
  · skip
    refine v_iconst (v := 0) (pc := 14) C dX12_read_14 rfl ?_
    exact v_iret (pc := 15) C (by decide) (by decide) dX12_read_15 ⟨(congrArg (fun q => some (Value.int q)) (by show _ = _; rw [V_X12_read, if_neg c_3])), rfl, (congrArg (fun q => wm q r) (by show _ = _; rw [S_X12_read, if_neg c_3]))⟩
def V_X12_canRead (g : vS) (u : Int32) (x : Int32) (y : Int32) : Int32 := (if (V_X12_isNotThere g ((V_X12_isUser g (u))) (x) (y)) = 0 then (if (V_X12_reads (S_X12_isNotThere g ((V_X12_isUser g (u))) (x) (y)) (u) (x) (y)) = 0 then 0 else 1) else 0)
theorem B_X12_canRead {g : vS} {u : Int32} {x : Int32} {y : Int32} : V_X12_canRead g u x y = 0 ∨ V_X12_canRead g u x y = 1 := by
  unfold V_X12_canRead
  (repeat' split) <;> first | exact Or.inl rfl | exact Or.inr rfl
def S_X12_canRead (g : vS) (u : Int32) (x : Int32) (y : Int32) : vS := (S_X12_isNotThere g ((V_X12_isUser g (u))) (x) (y))
theorem F_X12_canRead {g : vS} {u : Int32} {x : Int32} {y : Int32} {c i j : Nat} (h1 : c ≠ 1) : S_X12_canRead g u x y c i j = g c i j := by
  unfold S_X12_canRead
  (repeat' split) <;> first | rfl | ((simp only [s3_k h1, F_X12_isNotThere h1]) <;> first | done | rfl)
set_option maxHeartbeats 4000000 in
set_option maxRecDepth 100000 in
theorem c_X12_canRead {G : vG} (hG : G.1.stackTraces = false) {A : vN → Nat} {g : vS} {r : vH} (u : Int32) (x : Int32) (y : Int32) (hu0 : 0 ≤ (g 2 0 0).toInt) (hu : (g 2 0 0).toInt ≤ 6) (hg0 : 0 ≤ (g 3 0 0).toInt) (hg : (g 3 0 0).toInt ≤ 5) (hf0 : 0 ≤ (g 4 0 0).toInt) (hf : (g 4 0 0).toInt ≤ 20) (h1 : vM1 g) (h2 : vM2 g) (h3 : vM3 g) : vCt G yX12_canRead cX12_canRead 4 (some .boolean) 3 [.ref (A (40, 0)), .int (u), .int (x), .int (y)] A (wm g r) (fun v A2 h2 => v = some (.int (V_X12_canRead g u x y)) ∧ A2 = A ∧ h2 = wm (S_X12_canRead g u x y) r) (vNoX) 0 0 := by
  refine v_of hG (by decide +kernel) (Nat.le_of_ble_eq_true rfl) (lv := [(0, .ref (A (40, 0))), (1, .int (u)), (2, .int (x)), (3, .int (y))]) rfl (fun X C hnx => ?_)
  have C : vC G X cX12_canRead 4 RX12 (some .boolean) "canRead" 3 0 0 := C
  refine v_aload_n (pc := 0) C dX12_canRead_0 0 rfl rfl ?_
  refine v_aload_n (pc := 1) C dX12_canRead_1 0 rfl rfl ?_
  refine v_iload_n (pc := 2) C dX12_canRead_2 1 rfl rfl ?_
  refine v_callV (pc := 3) C (40, 0) ck_40 rfl (c_X12_isUser hG (u) ) 1 wd_1536 wd_68 wd_1533 wd_1535 wd_36 (by decide +kernel) (by decide) (by decide) rfl ([.ref (A (40, 0))]) rfl (Nat.le_of_ble_eq_true rfl) (by decide) dX12_canRead_3 (fun _ _ _ q => q.elim) (fun v9 A9 h9 hR9 => ?_)
  obtain ⟨rfl, hA9, rfl⟩ := hR9
  obtain rfl := hA9.symm
  refine v_st (k2 := 0) (n2 := 0) (st2 := [.int ((V_X12_isUser g (u))), .ref (A (40, 0))]) rfl rfl rfl ?_
  have b_1 := ok_isUser (g := g) (x := u) hu0
  refine v_iload_n (pc := 6) C dX12_canRead_6 2 rfl rfl ?_
  refine v_iload_n (pc := 7) C dX12_canRead_7 3 rfl rfl ?_
  refine v_callV (pc := 8) C (40, 0) ck_40 rfl (c_X12_isNotThere hG ((V_X12_isUser g (u))) (x) (y) hu0 hu hg0 hg hf0 hf) 3 wd_1637 wd_68 wd_1634 wd_1636 wd_50 (by decide +kernel) (by decide) (by decide) rfl ([]) rfl (Nat.le_of_ble_eq_true rfl) (by decide) dX12_canRead_8 (fun _ _ _ q => q.elim) (fun v9 A9 h9 hR9 => ?_)
  obtain ⟨rfl, hA9, rfl⟩ := hR9
  obtain rfl := hA9.symm
  refine v_st (k2 := 0) (n2 := 0) (st2 := [.int ((V_X12_isNotThere g ((V_X12_isUser g (u))) (x) (y)))]) rfl rfl rfl ?_
  have b_2 := ok_notThere (g := g) (zz := (V_X12_isUser g (u))) (x := x) (y := y) hf0
  refine v_if_ne (pc := 11) (tgt := 28) C dX12_canRead_11 (by decide) (fun c_3 => ?_) (fun c_3 => ?_)
  · skip
    refine v_iconst (v := 0) (pc := 28) C dX12_canRead_28 rfl ?_
    exact v_zret (pc := 29) C rfl (by decide) (by decide) dX12_canRead_29 ⟨(congrArg (fun q => some (Value.int q)) (by show _ = _; rw [V_X12_canRead, if_neg c_3])), rfl, (congrArg (fun q => wm q r) (by show _ = _; rw [S_X12_canRead]))⟩
  · skip
    refine v_aload_n (pc := 14) C dX12_canRead_14 0 rfl rfl ?_
    refine v_iload_n (pc := 15) C dX12_canRead_15 1 rfl rfl ?_
    refine v_iload_n (pc := 16) C dX12_canRead_16 2 rfl rfl ?_
    refine v_iload_n (pc := 17) C dX12_canRead_17 3 rfl rfl ?_
    refine v_callV (pc := 18) C (40, 0) ck_40 rfl (c_X12_reads hG (u) (x) (y) (by rw [show (S_X12_isNotThere g ((V_X12_isUser g (u))) (x) (y)) 2 0 0 = g 2 0 0 from F_X12_isNotThere (by decide)]; exact hu0) (by rw [show (S_X12_isNotThere g ((V_X12_isUser g (u))) (x) (y)) 2 0 0 = g 2 0 0 from F_X12_isNotThere (by decide)]; exact hu) (by rw [show (S_X12_isNotThere g ((V_X12_isUser g (u))) (x) (y)) 3 0 0 = g 3 0 0 from F_X12_isNotThere (by decide)]; exact hg0) (by rw [show (S_X12_isNotThere g ((V_X12_isUser g (u))) (x) (y)) 3 0 0 = g 3 0 0 from F_X12_isNotThere (by decide)]; exact hg) (by rw [show (S_X12_isNotThere g ((V_X12_isUser g (u))) (x) (y)) 4 0 0 = g 4 0 0 from F_X12_isNotThere (by decide)]; exact hf0) (by rw [show (S_X12_isNotThere g ((V_X12_isUser g (u))) (x) (y)) 4 0 0 = g 4 0 0 from F_X12_isNotThere (by decide)]; exact hf) (by (try simp only [Int32.le_iff_toInt_le, Int32.lt_iff_toInt_lt, ← Int32.toInt_inj, Int32.reduceToInt] at c_3 b_1 b_2 hu hg hf ⊢); omega) (by (try simp only [Int32.le_iff_toInt_le, Int32.lt_iff_toInt_lt, ← Int32.toInt_inj, Int32.reduceToInt] at c_3 b_1 b_2 hu hg hf ⊢); omega) (by (try simp only [Int32.le_iff_toInt_le, Int32.lt_iff_toInt_lt, ← Int32.toInt_inj, Int32.reduceToInt] at c_3 b_1 b_2 hu hg hf ⊢); omega) (by (try simp only [Int32.le_iff_toInt_le, Int32.lt_iff_toInt_lt, ← Int32.toInt_inj, Int32.reduceToInt] at c_3 b_1 b_2 hu hg hf ⊢); omega) (by (try simp only [Int32.le_iff_toInt_le, Int32.lt_iff_toInt_lt, ← Int32.toInt_inj, Int32.reduceToInt] at c_3 b_1 b_2 hu hg hf ⊢); omega) (by (try simp only [Int32.le_iff_toInt_le, Int32.lt_iff_toInt_lt, ← Int32.toInt_inj, Int32.reduceToInt] at c_3 b_1 b_2 hu hg hf ⊢); omega) (vM1_k (fun _ _ => F_X12_isNotThere (by decide)) h1) (vM2_k (fun _ _ => F_X12_isNotThere (by decide)) (fun _ _ => F_X12_isNotThere (by decide)) h2) (vM3_k (fun _ _ => F_X12_isNotThere (by decide)) (fun _ _ => F_X12_isNotThere (by decide)) h3)) 3 wd_1641 wd_68 wd_1638 wd_1640 wd_51 (by decide +kernel) (by decide) (by decide) rfl ([]) rfl (Nat.le_of_ble_eq_true rfl) (by decide) dX12_canRead_18 (fun _ _ _ q => q.elim) (fun v9 A9 h9 hR9 => ?_)
    obtain ⟨rfl, hA9, rfl⟩ := hR9
    obtain rfl := hA9.symm
    refine v_st (k2 := 0) (n2 := 0) (st2 := [.int ((V_X12_reads (S_X12_isNotThere g ((V_X12_isUser g (u))) (x) (y)) (u) (x) (y)))]) rfl rfl rfl ?_
    refine v_if_eq (pc := 21) (tgt := 28) C dX12_canRead_21 (by decide) (fun c_4 => ?_) (fun c_4 => ?_)
    · skip
      refine v_iconst (v := 0) (pc := 28) C dX12_canRead_28 rfl ?_
      exact v_zret (pc := 29) C rfl (by decide) (by decide) dX12_canRead_29 ⟨(congrArg (fun q => some (Value.int q)) (by show _ = _; rw [V_X12_canRead, if_pos c_3, if_pos c_4])), rfl, (congrArg (fun q => wm q r) (by show _ = _; rw [S_X12_canRead]))⟩
    · skip
      refine v_iconst (v := 1) (pc := 24) C dX12_canRead_24 rfl ?_
      refine v_goto (tgt := 29) (pc := 25) C dX12_canRead_25 (by decide) ?_
      exact v_zret (pc := 29) C rfl (by decide) (by decide) dX12_canRead_29 ⟨(congrArg (fun q => some (Value.int q)) (by show _ = _; rw [V_X12_canRead, if_pos c_3, if_neg c_4])), rfl, (congrArg (fun q => wm q r) (by show _ = _; rw [S_X12_canRead]))⟩
def V_X12_canReadByGrants (g : vS) (u : Int32) (x : Int32) (y : Int32) : Int32 := (V_X12_canRead g (u) (x) (y))
theorem B_X12_canReadByGrants {g : vS} {u : Int32} {x : Int32} {y : Int32} : V_X12_canReadByGrants g u x y = 0 ∨ V_X12_canReadByGrants g u x y = 1 := by
  unfold V_X12_canReadByGrants
  (repeat' split) <;> first | exact Or.inl rfl | exact Or.inr rfl | exact B_X12_canRead
def S_X12_canReadByGrants (g : vS) (u : Int32) (x : Int32) (y : Int32) : vS := (S_X12_canRead g (u) (x) (y))
theorem F_X12_canReadByGrants {g : vS} {u : Int32} {x : Int32} {y : Int32} {c i j : Nat} (h1 : c ≠ 1) : S_X12_canReadByGrants g u x y c i j = g c i j := by
  unfold S_X12_canReadByGrants
  (repeat' split) <;> first | rfl | ((simp only [s3_k h1, F_X12_canRead h1]) <;> first | done | rfl)
set_option maxHeartbeats 4000000 in
set_option maxRecDepth 100000 in
theorem c_X12_canReadByGrants {G : vG} (hG : G.1.stackTraces = false) {A : vN → Nat} {g : vS} {r : vH} (u : Int32) (x : Int32) (y : Int32) (hu0 : 0 ≤ (g 2 0 0).toInt) (hu : (g 2 0 0).toInt ≤ 6) (hg0 : 0 ≤ (g 3 0 0).toInt) (hg : (g 3 0 0).toInt ≤ 5) (hf0 : 0 ≤ (g 4 0 0).toInt) (hf : (g 4 0 0).toInt ≤ 20) (h1 : vM1 g) (h2 : vM2 g) (h3 : vM3 g) : vCt G yX12_canReadByGrants cX12_canReadByGrants 4 (some .boolean) 4 [.ref (A (40, 0)), .int (u), .int (x), .int (y)] A (wm g r) (fun v A2 h2 => v = some (.int (V_X12_canReadByGrants g u x y)) ∧ A2 = A ∧ h2 = wm (S_X12_canReadByGrants g u x y) r) (vNoX) 0 0 := by
  refine v_of hG (by decide +kernel) (Nat.le_of_ble_eq_true rfl) (lv := [(0, .ref (A (40, 0))), (1, .int (u)), (2, .int (x)), (3, .int (y))]) rfl (fun X C hnx => ?_)
  have C : vC G X cX12_canReadByGrants 4 RX12 (some .boolean) "canReadByGrants" 4 0 0 := C
  refine v_aload_n (pc := 0) C dX12_canReadByGrants_0 0 rfl rfl ?_
  refine v_iload_n (pc := 1) C dX12_canReadByGrants_1 1 rfl rfl ?_
  refine v_iload_n (pc := 2) C dX12_canReadByGrants_2 2 rfl rfl ?_
  refine v_iload_n (pc := 3) C dX12_canReadByGrants_3 3 rfl rfl ?_
  refine v_callV (pc := 4) C (40, 0) ck_40 rfl (c_X12_canRead hG (u) (x) (y) hu0 hu hg0 hg hf0 hf h1 h2 h3) 3 wd_1649 wd_68 wd_1654 wd_1647 wd_1648 (by decide +kernel) (by decide) (by decide) rfl ([]) rfl (Nat.le_of_ble_eq_true rfl) (by decide) dX12_canReadByGrants_4 (fun _ _ _ q => q.elim) (fun v9 A9 h9 hR9 => ?_)
  obtain ⟨rfl, hA9, rfl⟩ := hR9
  obtain rfl := hA9.symm
  refine v_st (k2 := 0) (n2 := 0) (st2 := [.int ((V_X12_canRead g (u) (x) (y)))]) rfl rfl rfl ?_
  exact v_zret (pc := 7) C (nar_b B_X12_canRead) (by decide) (by decide) dX12_canReadByGrants_7 ⟨(congrArg (fun q => some (Value.int q)) (by show _ = _; rw [V_X12_canReadByGrants])), rfl, (congrArg (fun q => wm q r) (by show _ = _; rw [S_X12_canReadByGrants]))⟩
