def VL_X12_draft_173 (g : vS) (u : Int32) (x : Int32) (y : Int32) (zz : Int32) : Nat → Nat → Int32 → vS → Int32
  | 0, _, _, _ => 0
  | n + 1, i_173, x_173_7, q_173 => (if x_173_7 ≤ nI i_173 then (x_173_7 + 1) else (VL_X12_draft_173 g u x y zz n (i_173 + 1) (x_173_7) (s3 (s3 (s3 q_173 76 (u).toNatClampNeg i_173 ((q_173 76 (u).toNatClampNeg (i_173 + 1)))) 78 (u).toNatClampNeg i_173 ((q_173 78 (u).toNatClampNeg (i_173 + 1)))) 80 (u).toNatClampNeg i_173 ((q_173 80 (u).toNatClampNeg (i_173 + 1))))))
def SL_X12_draft_173 (g : vS) (u : Int32) (x : Int32) (y : Int32) (zz : Int32) : Nat → Nat → Int32 → vS → vS
  | 0, _, _, q9 => q9
  | n + 1, i_173, x_173_7, q_173 => (if x_173_7 ≤ nI i_173 then (s3 (s3 (s3 (s3 q_173 76 (u).toNatClampNeg (x_173_7).toNatClampNeg (((8 * x) + y))) 78 (u).toNatClampNeg (x_173_7).toNatClampNeg (zz)) 80 (u).toNatClampNeg (x_173_7).toNatClampNeg ((g 63 (x).toNatClampNeg (y).toNatClampNeg))) 81 (u).toNatClampNeg 0 ((x_173_7 + 1))) else (SL_X12_draft_173 g u x y zz n (i_173 + 1) (x_173_7) (s3 (s3 (s3 q_173 76 (u).toNatClampNeg i_173 ((q_173 76 (u).toNatClampNeg (i_173 + 1)))) 78 (u).toNatClampNeg i_173 ((q_173 78 (u).toNatClampNeg (i_173 + 1)))) 80 (u).toNatClampNeg i_173 ((q_173 80 (u).toNatClampNeg (i_173 + 1))))))
def VL_X12_draft_52 (g : vS) (u : Int32) (x : Int32) (y : Int32) (zz : Int32) : Nat → Nat → Int32 → vS → Int32
  | 0, _, _, _ => 0
  | n + 1, i_52, x_52_5, q_52 => (if (g 81 (u).toNatClampNeg 0) ≤ nI i_52 then (if x_52_5 = (g 81 (u).toNatClampNeg 0) then (if (g 47 (u).toNatClampNeg 0) = 0 then 0 else (if x_52_5 = 10 then 0 else (VL_X12_draft_173 g u x y zz (10 + 1) (x_52_5).toNatClampNeg (x_52_5) (S_X12_isWrong q_52 (0))))) else (if (g 47 (u).toNatClampNeg 0) = 0 then 0 else (VL_X12_draft_173 g u x y zz (10 + 1) (x_52_5).toNatClampNeg (((g 81 (u).toNatClampNeg 0) - 1)) (S_X12_isWrong q_52 (0))))) else (if (g 76 (u).toNatClampNeg i_52) = ((8 * x) + y) then (VL_X12_draft_52 g u x y zz n (i_52 + 1) (nI i_52) q_52) else (VL_X12_draft_52 g u x y zz n (i_52 + 1) (x_52_5) q_52)))
def SL_X12_draft_52 (g : vS) (u : Int32) (x : Int32) (y : Int32) (zz : Int32) : Nat → Nat → Int32 → vS → vS
  | 0, _, _, q9 => q9
  | n + 1, i_52, x_52_5, q_52 => (if (g 81 (u).toNatClampNeg 0) ≤ nI i_52 then (if x_52_5 = (g 81 (u).toNatClampNeg 0) then (if (g 47 (u).toNatClampNeg 0) = 0 then (S_X12_isWrong q_52 (3)) else (if x_52_5 = 10 then (S_X12_isWrong q_52 (3)) else (SL_X12_draft_173 g u x y zz (10 + 1) (x_52_5).toNatClampNeg (x_52_5) (S_X12_isWrong q_52 (0))))) else (if (g 47 (u).toNatClampNeg 0) = 0 then (S_X12_isWrong q_52 (3)) else (SL_X12_draft_173 g u x y zz (10 + 1) (x_52_5).toNatClampNeg (((g 81 (u).toNatClampNeg 0) - 1)) (S_X12_isWrong q_52 (0))))) else (if (g 76 (u).toNatClampNeg i_52) = ((8 * x) + y) then (SL_X12_draft_52 g u x y zz n (i_52 + 1) (nI i_52) q_52) else (SL_X12_draft_52 g u x y zz n (i_52 + 1) (x_52_5) q_52)))
def V_X12_draft (g : vS) (u : Int32) (x : Int32) (y : Int32) (zz : Int32) : Int32 := (if (V_X12_isUser g (u)) = 0 then 0 else (if (V_X12_isFile g (x)) = 0 then 0 else (if (V_X12_isPart g (y)) = 0 then 0 else (VL_X12_draft_52 g u x y zz (10 + 1) 0 ((g 81 (u).toNatClampNeg 0)) (S_X12_isWrong g (0))))))
def S_X12_draft (g : vS) (u : Int32) (x : Int32) (y : Int32) (zz : Int32) : vS := (if (V_X12_isUser g (u)) = 0 then (S_X12_isWrong g (1)) else (if (V_X12_isFile g (x)) = 0 then (S_X12_isWrong g (1)) else (if (V_X12_isPart g (y)) = 0 then (S_X12_isWrong g (2)) else (SL_X12_draft_52 g u x y zz (10 + 1) 0 ((g 81 (u).toNatClampNeg 0)) (S_X12_isWrong g (0))))))
theorem FL_X12_draft_173 {g : vS} {u : Int32} {x : Int32} {y : Int32} {zz : Int32} {c i j : Nat} (h1 : c ≠ 1) (h76 : c ≠ 76) (h78 : c ≠ 78) (h80 : c ≠ 80) (h81 : c ≠ 81) : ∀ (n : Nat) (a0 : Nat) (a1 : Int32) (a2 : vS), a2 c i j = g c i j → SL_X12_draft_173 g u x y zz n a0 a1 a2 c i j = g c i j := by
  intro n
  induction n with
  | zero => intro a0 a1 a2 hq9; exact hq9
  | succ n ih =>
    intro a0 a1 a2 hq9
    simp only [SL_X12_draft_173]
    (repeat' split) <;> first | rfl | exact hq9 | (apply ih; first | exact hq9 | rfl | trivial | ((simp only [s3_k h1, s3_k h76, s3_k h78, s3_k h80, s3_k h81, F_X12_isWrong h1]) <;> first | done | exact hq9 | rfl)) | ((simp only [s3_k h1, s3_k h76, s3_k h78, s3_k h80, s3_k h81, F_X12_isWrong h1]) <;> first | done | exact hq9 | rfl)
theorem FL_X12_draft_52 {g : vS} {u : Int32} {x : Int32} {y : Int32} {zz : Int32} {c i j : Nat} (h1 : c ≠ 1) (h76 : c ≠ 76) (h78 : c ≠ 78) (h80 : c ≠ 80) (h81 : c ≠ 81) : ∀ (n : Nat) (a0 : Nat) (a1 : Int32) (a2 : vS), a2 c i j = g c i j → SL_X12_draft_52 g u x y zz n a0 a1 a2 c i j = g c i j := by
  intro n
  induction n with
  | zero => intro a0 a1 a2 hq9; exact hq9
  | succ n ih =>
    intro a0 a1 a2 hq9
    simp only [SL_X12_draft_52]
    (repeat' split) <;> first | rfl | exact hq9 | (apply ih; first | exact hq9 | rfl | trivial | ((simp only [s3_k h1, s3_k h76, s3_k h78, s3_k h80, s3_k h81, F_X12_isWrong h1]) <;> first | done | exact hq9 | rfl)) | (apply FL_X12_draft_173 h1 h76 h78 h80 h81; first | exact hq9 | rfl | ((try simp only [s3_k h1, s3_k h76, s3_k h78, s3_k h80, s3_k h81, F_X12_isWrong h1]) <;> first | exact hq9 | rfl)) | ((simp only [s3_k h1, s3_k h76, s3_k h78, s3_k h80, s3_k h81, F_X12_isWrong h1]) <;> first | done | exact hq9 | rfl)
theorem F_X12_draft {g : vS} {u : Int32} {x : Int32} {y : Int32} {zz : Int32} {c i j : Nat} (h1 : c ≠ 1) (h76 : c ≠ 76) (h78 : c ≠ 78) (h80 : c ≠ 80) (h81 : c ≠ 81) : S_X12_draft g u x y zz c i j = g c i j := by
  unfold S_X12_draft
  (repeat' split) <;> first | rfl | (apply FL_X12_draft_173 h1 h76 h78 h80 h81; first | rfl | trivial | ((simp only [s3_k h1, s3_k h76, s3_k h78, s3_k h80, s3_k h81, F_X12_isWrong h1]) <;> first | done | rfl)) | (apply FL_X12_draft_52 h1 h76 h78 h80 h81; first | rfl | trivial | ((simp only [s3_k h1, s3_k h76, s3_k h78, s3_k h80, s3_k h81, F_X12_isWrong h1]) <;> first | done | rfl)) | ((simp only [s3_k h1, s3_k h76, s3_k h78, s3_k h80, s3_k h81, F_X12_isWrong h1]) <;> first | done | rfl)
set_option maxHeartbeats 4000000 in
set_option maxRecDepth 100000 in
theorem c_X12_draft {G : vG} (hG : G.1.stackTraces = false) {A : vN → Nat} {g : vS} {r : vH} (u : Int32) (x : Int32) (y : Int32) (zz : Int32) (hu0 : 0 ≤ (g 2 0 0).toInt) (hu : (g 2 0 0).toInt ≤ 6) (hg0 : 0 ≤ (g 3 0 0).toInt) (hg : (g 3 0 0).toInt ≤ 5) (hf0 : 0 ≤ (g 4 0 0).toInt) (hf : (g 4 0 0).toInt ≤ 20) (h1 : vM1 g) (h2 : vM2 g) (h3 : vM3 g) (h9 : vM9 g) : vCt G yX12_draft cX12_draft 9 (some .int) 2 [.ref (A (40, 0)), .int (u), .int (x), .int (y), .int (zz)] A (wm g r) (fun v A2 h2 => v = some (.int (V_X12_draft g u x y zz)) ∧ A2 = A ∧ h2 = wm (S_X12_draft g u x y zz) r) (vNoX) 0 0 := by
  refine v_of hG (by decide +kernel) (Nat.le_of_ble_eq_true rfl) (lv := [(0, .ref (A (40, 0))), (1, .int (u)), (2, .int (x)), (3, .int (y)), (4, .int (zz))]) rfl (fun X C hnx => ?_)
  have C : vC G X cX12_draft 9 RX12 (some .int) "draft" 2 0 0 := C
  have h9u := h9 (u).toNatClampNeg
  refine v_aload_n (pc := 0) C dX12_draft_0 0 rfl rfl ?_
  refine v_aload_n (pc := 1) C dX12_draft_1 0 rfl rfl ?_
  refine v_iload_n (pc := 2) C dX12_draft_2 1 rfl rfl ?_
  refine v_callV (pc := 3) C (40, 0) ck_40 rfl (c_X12_isUser hG (g := g) (u) ) 1 wd_1539 wd_68 wd_1536 wd_1538 wd_36 (by decide +kernel) (by decide) (by decide) rfl ([.ref (A (40, 0))]) rfl (Nat.le_of_ble_eq_true rfl) (by decide) dX12_draft_3 (fun _ _ _ q => q.elim) (fun v9 A9 h9 hR9 => ?_)
  obtain ⟨rfl, hA9, rfl⟩ := hR9
  obtain rfl := hA9.symm
  refine v_st (k2 := 0) (n2 := 0) (st2 := [.int ((V_X12_isUser g (u))), .ref (A (40, 0))]) rfl rfl rfl ?_
  have b_1 := ok_isUser (g := g) (x := u) hu0
  refine v_if_eq (pc := 6) (tgt := 17) C dX12_draft_6 (by decide) (fun c_2 => ?_) (fun c_2 => ?_)
  · skip
    refine v_iconst (v := 1) (pc := 17) C dX12_draft_17 rfl ?_
    refine v_goto (tgt := 33) (pc := 18) C dX12_draft_18 (by decide) ?_
    refine v_callV (pc := 33) C (40, 0) ck_40 rfl (c_X12_isWrong hG (g := g) (1) ) 1 wd_1531 wd_68 wd_1528 wd_1530 wd_35 (by decide +kernel) (by decide) (by decide) rfl ([]) rfl (Nat.le_of_ble_eq_true rfl) (by decide) dX12_draft_33 (fun _ _ _ q => q.elim) (fun v9 A9 h9 hR9 => ?_)
    obtain ⟨rfl, hA9, rfl⟩ := hR9
    obtain rfl := hA9.symm
    refine v_st (k2 := 0) (n2 := 0) (st2 := [.int ((V_X12_isWrong g (1)))]) rfl rfl rfl ?_
    refine v_if_eq (pc := 36) (tgt := 41) C dX12_draft_36 (by decide) (fun c_3 => ?_) (fun c_3 => ?_)
    · skip
      exact absurd c_3 (fun q9 => ((show ¬ (1 : Int32) = 0 from by decide)) q9)
    · skip
      refine v_iconst (v := 0) (pc := 39) C dX12_draft_39 rfl ?_
      exact v_iret (pc := 40) C (by decide) (by decide) dX12_draft_40 ⟨(congrArg (fun q => some (Value.int q)) (by show _ = _; rw [V_X12_draft, if_pos c_2])), rfl, (congrArg (fun q => wm q r) (by show _ = _; rw [S_X12_draft, if_pos c_2]))⟩
  · skip
    refine v_aload_n (pc := 9) C dX12_draft_9 0 rfl rfl ?_
    refine v_iload_n (pc := 10) C dX12_draft_10 2 rfl rfl ?_
    refine v_callV (pc := 11) C (40, 0) ck_40 rfl (c_X12_isFile hG (g := g) (x) ) 1 wd_1613 wd_68 wd_1610 wd_1612 wd_45 (by decide +kernel) (by decide) (by decide) rfl ([.ref (A (40, 0))]) rfl (Nat.le_of_ble_eq_true rfl) (by decide) dX12_draft_11 (fun _ _ _ q => q.elim) (fun v9 A9 h9 hR9 => ?_)
    obtain ⟨rfl, hA9, rfl⟩ := hR9
    obtain rfl := hA9.symm
    refine v_st (k2 := 0) (n2 := 0) (st2 := [.int ((V_X12_isFile g (x))), .ref (A (40, 0))]) rfl rfl rfl ?_
    have b_4 := ok_isFile (g := g) (x := x) hf0
    refine v_if_ne (pc := 14) (tgt := 21) C dX12_draft_14 (by decide) (fun c_5 => ?_) (fun c_5 => ?_)
    · skip
      refine v_iload_n (pc := 21) C dX12_draft_21 3 rfl rfl ?_
      refine v_callS (pc := 22) C (c_X12_isPart hG (g := g) (y) ) 1 wd_1616 wd_68 wd_1614 wd_1615 (by decide +kernel) (by decide) (by decide) rfl ([.ref (A (40, 0))]) rfl (Nat.le_of_ble_eq_true rfl) (by decide) dX12_draft_22 (fun _ _ _ q => q.elim) (fun v9 A9 h9 hR9 => ?_)
      obtain ⟨rfl, hA9, rfl⟩ := hR9
      obtain rfl := hA9.symm
      refine v_st (k2 := 0) (n2 := 0) (st2 := [.int ((V_X12_isPart g (y))), .ref (A (40, 0))]) rfl rfl rfl ?_
      have b_6 := ok_isPart (g := g) (x := y)
      refine v_if_ne (pc := 25) (tgt := 32) C dX12_draft_25 (by decide) (fun c_7 => ?_) (fun c_7 => ?_)
      · skip
        refine v_iconst (v := 0) (pc := 32) C dX12_draft_32 rfl ?_
        refine v_callV (pc := 33) C (40, 0) ck_40 rfl (c_X12_isWrong hG (g := g) (0) ) 1 wd_1531 wd_68 wd_1528 wd_1530 wd_35 (by decide +kernel) (by decide) (by decide) rfl ([]) rfl (Nat.le_of_ble_eq_true rfl) (by decide) dX12_draft_33 (fun _ _ _ q => q.elim) (fun v9 A9 h9 hR9 => ?_)
        obtain ⟨rfl, hA9, rfl⟩ := hR9
        obtain rfl := hA9.symm
        refine v_st (k2 := 0) (n2 := 0) (st2 := [.int ((V_X12_isWrong g (0)))]) rfl rfl rfl ?_
        refine v_if_eq (pc := 36) (tgt := 41) C dX12_draft_36 (by decide) (fun c_8 => ?_) (fun c_8 => ?_)
        · skip
          refine v_aload_n (pc := 41) C dX12_draft_41 0 rfl rfl ?_
          refine v_get (pc := 42) C (40, 0) (v := .ref (A (81, 0))) ck_40 rfl 41 (by decide) inX12 wd_1429 rfl rfl dX12_draft_42 ?_
          refine v_iload_n (pc := 45) C dX12_draft_45 1 rfl rfl ?_
          refine v_iald (pc := 46) C (81, 0) (v := (g 81 (u).toNatClampNeg 0)) ck_81 (by (try simp only [Int32.le_iff_toInt_le, Int32.lt_iff_toInt_lt, ← Int32.toInt_inj, vp_in_iff, Int32.reduceToInt] at c_2 c_5 c_7 c_8 b_1 b_4 b_6 hu hg hf h9u ⊢) <;> omega) (F_X12_isWrong (by decide)) dX12_draft_46 ?_
          refine v_istore (lv2 := [(5, .int ((g 81 (u).toNatClampNeg 0))), (0, .ref (A (40, 0))), (1, .int (u)), (2, .int (x)), (3, .int (y)), (4, .int (zz))]) (pc := 47) C dX12_draft_47 (by decide) rfl ?_
          refine v_iconst (v := 0) (pc := 49) C dX12_draft_49 rfl ?_
          refine v_istore (lv2 := [(6, .int (0)), (5, .int ((g 81 (u).toNatClampNeg 0))), (0, .ref (A (40, 0))), (1, .int (u)), (2, .int (x)), (3, .int (y)), (4, .int (zz))]) (pc := 50) C dX12_draft_50 (by decide) rfl ?_
          have L_52 : ∀ (n : Nat) (i_52 : Nat) (x_52_5 : Int32) (q_52 : vS), i_52 ≤ 10 → 10 + 1 ≤ i_52 + n → (∀ (c i j : Nat), c ≠ 1 → q_52 c i j = g c i j) → 0 ≤ (x_52_5).toInt ∧ (x_52_5).toInt ≤ (g 81 (u).toNatClampNeg 0).toInt → (V_X12_draft g u x y zz) = VL_X12_draft_52 g u x y zz n i_52 x_52_5 q_52 → (S_X12_draft g u x y zz) = SL_X12_draft_52 g u x y zz n i_52 x_52_5 q_52 → V G 9 X A (wm q_52 r) 0 0 (vM G X (fun v A2 h2 => v = some (.int (V_X12_draft g u x y zz)) ∧ A2 = A ∧ h2 = wm (S_X12_draft g u x y zz) r) (vNoX) 0 0) 52 [(6, .int (nI i_52)), (5, .int (x_52_5)), (0, .ref (A (40, 0))), (1, .int (u)), (2, .int (x)), (3, .int (y)), (4, .int (zz))] [] := by
            intro n
            induction n with
            | zero => intro i_52 x_52_5 q_52 hi_52 hc_52 hF_52 hz_52 eV_52 eS_52; exact absurd hc_52 (by omega)
            | succ n ih =>
              intro i_52 x_52_5 q_52 hi_52 hc_52 hF_52 hz_52 eV_52 eS_52
              have hq_52 : (nI i_52).toInt = (i_52 : Int) := nI_toInt (by omega)
              have hr_52 : (nI (i_52 + 1)).toInt = ((i_52 + 1 : Nat) : Int) := nI_toInt (by omega)
              refine v_iload (pc := 52) C dX12_draft_52 0 rfl ?_
              refine v_aload_n (pc := 54) C dX12_draft_54 2 rfl rfl ?_
              refine v_get (pc := 55) C (40, 0) (v := .ref (A (81, 0))) ck_40 rfl 41 (by decide) inX12 wd_1429 rfl rfl dX12_draft_55 ?_
              refine v_iload_n (pc := 58) C dX12_draft_58 3 rfl rfl ?_
              refine v_iald (pc := 59) C (81, 0) (v := (g 81 (u).toNatClampNeg 0)) ck_81 (by (try simp only [Int32.le_iff_toInt_le, Int32.lt_iff_toInt_lt, ← Int32.toInt_inj, vp_in_iff, Int32.reduceToInt] at c_2 c_5 c_7 c_8 b_1 b_4 b_6 hq_52 hr_52 hu hg hf h9u ⊢) <;> omega) (hF_52 _ _ _ (by decide)) dX12_draft_59 ?_
              refine v_icmp_ge (pc := 60) (tgt := 96) C dX12_draft_60 (by decide) (fun c_9 => ?_) (fun c_9 => ?_)
              · skip
                refine v_iload (pc := 96) C dX12_draft_96 1 rfl ?_
                refine v_aload_n (pc := 98) C dX12_draft_98 2 rfl rfl ?_
                refine v_get (pc := 99) C (40, 0) (v := .ref (A (81, 0))) ck_40 rfl 41 (by decide) inX12 wd_1429 rfl rfl dX12_draft_99 ?_
                refine v_iload_n (pc := 102) C dX12_draft_102 3 rfl rfl ?_
                refine v_iald (pc := 103) C (81, 0) (v := (g 81 (u).toNatClampNeg 0)) ck_81 (by (try simp only [Int32.le_iff_toInt_le, Int32.lt_iff_toInt_lt, ← Int32.toInt_inj, vp_in_iff, Int32.reduceToInt] at c_2 c_5 c_7 c_8 c_9 b_1 b_4 b_6 hq_52 hr_52 hu hg hf h9u ⊢) <;> omega) (hF_52 _ _ _ (by decide)) dX12_draft_103 ?_
                refine v_icmp_ne (pc := 104) (tgt := 111) C dX12_draft_104 (by decide) (fun c_10 => ?_) (fun c_10 => ?_)
                · skip
                  refine v_iconst (v := 0) (pc := 111) C dX12_draft_111 rfl ?_
                  refine v_istore (lv2 := [(6, .int (0)), (5, .int (x_52_5)), (0, .ref (A (40, 0))), (1, .int (u)), (2, .int (x)), (3, .int (y)), (4, .int (zz))]) (pc := 112) C dX12_draft_112 (by decide) rfl ?_
                  refine v_aload_n (pc := 114) C dX12_draft_114 2 rfl rfl ?_
                  refine v_aload_n (pc := 115) C dX12_draft_115 2 rfl rfl ?_
                  refine v_get (pc := 116) C (40, 0) (v := .ref (A (47, 0))) ck_40 rfl 7 (by decide) inX12 wd_1395 rfl rfl dX12_draft_116 ?_
                  refine v_iload_n (pc := 119) C dX12_draft_119 3 rfl rfl ?_
                  refine v_zald (pc := 120) C (47, 0) (v := (g 47 (u).toNatClampNeg 0)) ck_47 (by (try simp only [Int32.le_iff_toInt_le, Int32.lt_iff_toInt_lt, ← Int32.toInt_inj, vp_in_iff, Int32.reduceToInt] at c_2 c_5 c_7 c_8 c_9 c_10 b_1 b_4 b_6 hq_52 hr_52 hu hg hf h9u ⊢) <;> omega) (hF_52 _ _ _ (by decide)) dX12_draft_120 ?_
                  refine v_if_eq (pc := 121) (tgt := 136) C dX12_draft_121 (by decide) (fun c_11 => ?_) (fun c_11 => ?_)
                  · skip
                    refine v_iconst (v := 3) (pc := 136) C dX12_draft_136 rfl ?_
                    refine v_goto (tgt := 141) (pc := 137) C dX12_draft_137 (by decide) ?_
                    refine v_callV (pc := 141) C (40, 0) ck_40 rfl (c_X12_isWrong hG (g := q_52) (3) ) 1 wd_1531 wd_68 wd_1528 wd_1530 wd_35 (by decide +kernel) (by decide) (by decide) rfl ([]) rfl (Nat.le_of_ble_eq_true rfl) (by decide) dX12_draft_141 (fun _ _ _ q => q.elim) (fun v9 A9 h9 hR9 => ?_)
                    obtain ⟨rfl, hA9, rfl⟩ := hR9
                    obtain rfl := hA9.symm
                    refine v_st (k2 := 0) (n2 := 0) (st2 := [.int ((V_X12_isWrong q_52 (3)))]) rfl rfl rfl ?_
                    refine v_if_eq (pc := 144) (tgt := 149) C dX12_draft_144 (by decide) (fun c_12 => ?_) (fun c_12 => ?_)
                    · skip
                      exact absurd c_12 (fun q9 => ((show ¬ (1 : Int32) = 0 from by decide)) q9)
                    · skip
                      refine v_iconst (v := 0) (pc := 147) C dX12_draft_147 rfl ?_
                      exact v_iret (pc := 148) C (by decide) (by decide) dX12_draft_148 ⟨(congrArg (fun q => some (Value.int q)) (by show _ = _; rw [eV_52, VL_X12_draft_52, if_pos c_9, if_neg c_10, if_pos c_11])), rfl, (congrArg (fun q => wm q r) (by show _ = _; rw [eS_52, SL_X12_draft_52, if_pos c_9, if_neg c_10, if_pos c_11]))⟩
                  · skip
                    refine v_iload (pc := 124) C dX12_draft_124 0 rfl ?_
                    refine v_if_eq (pc := 126) (tgt := 140) C dX12_draft_126 (by decide) (fun c_13 => ?_) (fun c_13 => ?_)
                    · skip
                      refine v_iconst (v := 0) (pc := 140) C dX12_draft_140 rfl ?_
                      refine v_callV (pc := 141) C (40, 0) ck_40 rfl (c_X12_isWrong hG (g := q_52) (0) ) 1 wd_1531 wd_68 wd_1528 wd_1530 wd_35 (by decide +kernel) (by decide) (by decide) rfl ([]) rfl (Nat.le_of_ble_eq_true rfl) (by decide) dX12_draft_141 (fun _ _ _ q => q.elim) (fun v9 A9 h9 hR9 => ?_)
                      obtain ⟨rfl, hA9, rfl⟩ := hR9
                      obtain rfl := hA9.symm
                      refine v_st (k2 := 0) (n2 := 0) (st2 := [.int ((V_X12_isWrong q_52 (0)))]) rfl rfl rfl ?_
                      refine v_if_eq (pc := 144) (tgt := 149) C dX12_draft_144 (by decide) (fun c_14 => ?_) (fun c_14 => ?_)
                      · skip
                        refine v_iload (pc := 149) C dX12_draft_149 0 rfl ?_
                        refine v_if_eq (pc := 151) (tgt := 159) C dX12_draft_151 (by decide) (fun c_15 => ?_) (fun c_15 => ?_)
                        · skip
                          refine v_aload_n (pc := 159) C dX12_draft_159 2 rfl rfl ?_
                          refine v_get (pc := 160) C (40, 0) (v := .ref (A (81, 0))) ck_40 rfl 41 (by decide) inX12 wd_1429 rfl rfl dX12_draft_160 ?_
                          refine v_iload_n (pc := 163) C dX12_draft_163 3 rfl rfl ?_
                          refine v_iald (pc := 164) C (81, 0) (v := (g 81 (u).toNatClampNeg 0)) ck_81 (by (try simp only [Int32.le_iff_toInt_le, Int32.lt_iff_toInt_lt, ← Int32.toInt_inj, vp_in_iff, Int32.reduceToInt] at c_2 c_5 c_7 c_8 c_9 c_10 c_11 c_13 c_14 c_15 b_1 b_4 b_6 hq_52 hr_52 hu hg hf h9u ⊢) <;> omega) ((F_X12_isWrong (by decide)).trans (hF_52 _ _ _ (by decide))) dX12_draft_164 ?_
                          refine v_iconst (v := 1) (pc := 165) C dX12_draft_165 rfl ?_
                          refine v_isub (pc := 166) C dX12_draft_166 ?_
                          have b_16 : (((g 81 (u).toNatClampNeg 0) - 1)).toInt = (g 81 (u).toNatClampNeg 0).toInt - 1 := i32_sub1 h9u.1
                          refine v_istore (lv2 := [(7, .int (((g 81 (u).toNatClampNeg 0) - 1))), (6, .int (0)), (5, .int (x_52_5)), (0, .ref (A (40, 0))), (1, .int (u)), (2, .int (x)), (3, .int (y)), (4, .int (zz))]) (pc := 167) C dX12_draft_167 (by decide) rfl ?_
                          refine v_iload (pc := 169) C dX12_draft_169 2 rfl ?_
                          refine v_istore (lv2 := [(8, .int (x_52_5)), (7, .int (((g 81 (u).toNatClampNeg 0) - 1))), (6, .int (0)), (5, .int (x_52_5)), (0, .ref (A (40, 0))), (1, .int (u)), (2, .int (x)), (3, .int (y)), (4, .int (zz))]) (pc := 171) C dX12_draft_171 (by decide) rfl ?_
                          have L_173 : ∀ (n : Nat) (i_173 : Nat) (x_173_7 : Int32) (q_173 : vS), i_173 ≤ 10 → 10 + 1 ≤ i_173 + n → (∀ (c i j : Nat), c ≠ 1 → c ≠ 76 → c ≠ 78 → c ≠ 80 → q_173 c i j = g c i j) → 0 ≤ (x_173_7).toInt ∧ (x_173_7).toInt ≤ 9 → (V_X12_draft g u x y zz) = VL_X12_draft_173 g u x y zz n i_173 x_173_7 q_173 → (S_X12_draft g u x y zz) = SL_X12_draft_173 g u x y zz n i_173 x_173_7 q_173 → V G 9 X A (wm q_173 r) 0 0 (vM G X (fun v A2 h2 => v = some (.int (V_X12_draft g u x y zz)) ∧ A2 = A ∧ h2 = wm (S_X12_draft g u x y zz) r) (vNoX) 0 0) 173 [(8, .int (nI i_173)), (7, .int (x_173_7)), (0, .ref (A (40, 0))), (1, .int (u)), (2, .int (x)), (3, .int (y)), (4, .int (zz))] [] := by
                            intro n
                            induction n with
                            | zero => intro i_173 x_173_7 q_173 hi_173 hc_173 hF_173 hz_173 eV_173 eS_173; exact absurd hc_173 (by omega)
                            | succ n ih =>
                              intro i_173 x_173_7 q_173 hi_173 hc_173 hF_173 hz_173 eV_173 eS_173
                              have hq_173 : (nI i_173).toInt = (i_173 : Int) := nI_toInt (by omega)
                              have hr_173 : (nI (i_173 + 1)).toInt = ((i_173 + 1 : Nat) : Int) := nI_toInt (by omega)
                              refine v_iload (pc := 173) C dX12_draft_173 0 rfl ?_
                              refine v_iload (pc := 175) C dX12_draft_175 1 rfl ?_
                              refine v_icmp_ge (pc := 177) (tgt := 246) C dX12_draft_177 (by decide) (fun c_17 => ?_) (fun c_17 => ?_)
                              · skip
                                refine v_aload_n (pc := 246) C dX12_draft_246 2 rfl rfl ?_
                                refine v_get (pc := 247) C (40, 0) (v := .ref (A (75, 0))) ck_40 rfl 38 (by decide) inX12 wd_1426 rfl rfl dX12_draft_247 ?_
                                refine v_iload_n (pc := 250) C dX12_draft_250 3 rfl rfl ?_
                                refine v_aald (pc := 251) C (75, 0) ck_75 rfl rfl (by (try simp only [Int32.le_iff_toInt_le, Int32.lt_iff_toInt_lt, ← Int32.toInt_inj, vp_in_iff, Int32.reduceToInt] at c_2 c_5 c_7 c_8 c_9 c_10 c_11 c_13 c_14 c_15 c_17 b_1 b_4 b_6 hq_52 hr_52 b_16 hq_173 hr_173 hu hg hf h9u ⊢) <;> omega) (76, (u).toNatClampNeg) rfl dX12_draft_251 ?_
                                refine v_iload (pc := 252) C dX12_draft_252 1 rfl ?_
                                refine v_bipush (v := 8) (pc := 254) C dX12_draft_254 (by decide) ?_
                                refine v_iload_n (pc := 256) C dX12_draft_256 4 rfl rfl ?_
                                refine v_imul (pc := 257) C dX12_draft_257 ?_
                                refine v_iload_n (pc := 258) C dX12_draft_258 5 rfl rfl ?_
                                refine v_iadd (pc := 259) C dX12_draft_259 ?_
                                refine v_iast (pc := 260) C (76, (u).toNatClampNeg) (x := ((8 * x) + y)) (ck_76 (g := q_173) (tn_lt (by (try simp only [Int32.le_iff_toInt_le, Int32.lt_iff_toInt_lt, ← Int32.toInt_inj, Int32.reduceToInt] at c_2 c_5 c_7 c_8 c_9 c_10 c_11 c_13 c_14 c_15 c_17 b_1 b_4 b_6 hq_52 hr_52 b_16 hq_173 hr_173 hu hg hf h9u ⊢); omega))) (by (try simp only [Int32.le_iff_toInt_le, Int32.lt_iff_toInt_lt, ← Int32.toInt_inj, vp_in_iff, Int32.reduceToInt] at c_2 c_5 c_7 c_8 c_9 c_10 c_11 c_13 c_14 c_15 c_17 b_1 b_4 b_6 hq_52 hr_52 b_16 hq_173 hr_173 hu hg hf h9u ⊢) <;> omega) dX12_draft_260 ?_
                                refine v_h (h2 := (wm (s3 q_173 76 (u).toNatClampNeg (x_173_7).toNatClampNeg (((8 * x) + y))) r)) (u_76_a (g := q_173) (tn_lt (by (try simp only [Int32.le_iff_toInt_le, Int32.lt_iff_toInt_lt, ← Int32.toInt_inj, Int32.reduceToInt] at c_2 c_5 c_7 c_8 c_9 c_10 c_11 c_13 c_14 c_15 c_17 b_1 b_4 b_6 hq_52 hr_52 b_16 hq_173 hr_173 hu hg hf h9u ⊢); omega))) ?_
                                refine v_aload_n (pc := 261) C dX12_draft_261 2 rfl rfl ?_
                                refine v_get (pc := 262) C (40, 0) (v := .ref (A (77, 0))) ck_40 rfl 39 (by decide) inX12 wd_1427 rfl rfl dX12_draft_262 ?_
                                refine v_iload_n (pc := 265) C dX12_draft_265 3 rfl rfl ?_
                                refine v_aald (pc := 266) C (77, 0) ck_77 rfl rfl (by (try simp only [Int32.le_iff_toInt_le, Int32.lt_iff_toInt_lt, ← Int32.toInt_inj, vp_in_iff, Int32.reduceToInt] at c_2 c_5 c_7 c_8 c_9 c_10 c_11 c_13 c_14 c_15 c_17 b_1 b_4 b_6 hq_52 hr_52 b_16 hq_173 hr_173 hu hg hf h9u ⊢) <;> omega) (78, (u).toNatClampNeg) rfl dX12_draft_266 ?_
                                refine v_iload (pc := 267) C dX12_draft_267 1 rfl ?_
                                refine v_iload (pc := 269) C dX12_draft_269 6 rfl ?_
                                refine v_iast (pc := 271) C (78, (u).toNatClampNeg) (x := zz) (ck_78 (g := (s3 q_173 76 (u).toNatClampNeg (x_173_7).toNatClampNeg (((8 * x) + y)))) (tn_lt (by (try simp only [Int32.le_iff_toInt_le, Int32.lt_iff_toInt_lt, ← Int32.toInt_inj, Int32.reduceToInt] at c_2 c_5 c_7 c_8 c_9 c_10 c_11 c_13 c_14 c_15 c_17 b_1 b_4 b_6 hq_52 hr_52 b_16 hq_173 hr_173 hu hg hf h9u ⊢); omega))) (by (try simp only [Int32.le_iff_toInt_le, Int32.lt_iff_toInt_lt, ← Int32.toInt_inj, vp_in_iff, Int32.reduceToInt] at c_2 c_5 c_7 c_8 c_9 c_10 c_11 c_13 c_14 c_15 c_17 b_1 b_4 b_6 hq_52 hr_52 b_16 hq_173 hr_173 hu hg hf h9u ⊢) <;> omega) dX12_draft_271 ?_
                                refine v_h (h2 := (wm (s3 (s3 q_173 76 (u).toNatClampNeg (x_173_7).toNatClampNeg (((8 * x) + y))) 78 (u).toNatClampNeg (x_173_7).toNatClampNeg (zz)) r)) (u_78_a (g := (s3 q_173 76 (u).toNatClampNeg (x_173_7).toNatClampNeg (((8 * x) + y)))) (tn_lt (by (try simp only [Int32.le_iff_toInt_le, Int32.lt_iff_toInt_lt, ← Int32.toInt_inj, Int32.reduceToInt] at c_2 c_5 c_7 c_8 c_9 c_10 c_11 c_13 c_14 c_15 c_17 b_1 b_4 b_6 hq_52 hr_52 b_16 hq_173 hr_173 hu hg hf h9u ⊢); omega))) ?_
                                refine v_aload_n (pc := 272) C dX12_draft_272 2 rfl rfl ?_
                                refine v_get (pc := 273) C (40, 0) (v := .ref (A (79, 0))) ck_40 rfl 40 (by decide) inX12 wd_1428 rfl rfl dX12_draft_273 ?_
                                refine v_iload_n (pc := 276) C dX12_draft_276 3 rfl rfl ?_
                                refine v_aald (pc := 277) C (79, 0) ck_79 rfl rfl (by (try simp only [Int32.le_iff_toInt_le, Int32.lt_iff_toInt_lt, ← Int32.toInt_inj, vp_in_iff, Int32.reduceToInt] at c_2 c_5 c_7 c_8 c_9 c_10 c_11 c_13 c_14 c_15 c_17 b_1 b_4 b_6 hq_52 hr_52 b_16 hq_173 hr_173 hu hg hf h9u ⊢) <;> omega) (80, (u).toNatClampNeg) rfl dX12_draft_277 ?_
                                refine v_iload (pc := 278) C dX12_draft_278 1 rfl ?_
                                refine v_aload_n (pc := 280) C dX12_draft_280 2 rfl rfl ?_
                                refine v_get (pc := 281) C (40, 0) (v := .ref (A (62, 0))) ck_40 rfl 20 (by decide) inX12 wd_1408 rfl rfl dX12_draft_281 ?_
                                refine v_iload_n (pc := 284) C dX12_draft_284 4 rfl rfl ?_
                                refine v_aald (pc := 285) C (62, 0) ck_62 rfl rfl (by (try simp only [Int32.le_iff_toInt_le, Int32.lt_iff_toInt_lt, ← Int32.toInt_inj, vp_in_iff, Int32.reduceToInt] at c_2 c_5 c_7 c_8 c_9 c_10 c_11 c_13 c_14 c_15 c_17 b_1 b_4 b_6 hq_52 hr_52 b_16 hq_173 hr_173 hu hg hf h9u ⊢) <;> omega) (63, (x).toNatClampNeg) rfl dX12_draft_285 ?_
                                refine v_iload_n (pc := 286) C dX12_draft_286 5 rfl rfl ?_
                                refine v_iald (pc := 287) C (63, (x).toNatClampNeg) (v := (g 63 (x).toNatClampNeg (y).toNatClampNeg)) (ck_63 (g := (s3 (s3 q_173 76 (u).toNatClampNeg (x_173_7).toNatClampNeg (((8 * x) + y))) 78 (u).toNatClampNeg (x_173_7).toNatClampNeg (zz))) (tn_lt (by (try simp only [Int32.le_iff_toInt_le, Int32.lt_iff_toInt_lt, ← Int32.toInt_inj, Int32.reduceToInt] at c_2 c_5 c_7 c_8 c_9 c_10 c_11 c_13 c_14 c_15 c_17 b_1 b_4 b_6 hq_52 hr_52 b_16 hq_173 hr_173 hu hg hf h9u ⊢); omega))) (by (try simp only [Int32.le_iff_toInt_le, Int32.lt_iff_toInt_lt, ← Int32.toInt_inj, vp_in_iff, Int32.reduceToInt] at c_2 c_5 c_7 c_8 c_9 c_10 c_11 c_13 c_14 c_15 c_17 b_1 b_4 b_6 hq_52 hr_52 b_16 hq_173 hr_173 hu hg hf h9u ⊢) <;> omega) ((s3_k (by decide)).trans ((s3_k (by decide)).trans (hF_173 _ _ _ (by decide) (by decide) (by decide) (by decide)))) dX12_draft_287 ?_
                                refine v_iast (pc := 288) C (80, (u).toNatClampNeg) (x := (g 63 (x).toNatClampNeg (y).toNatClampNeg)) (ck_80 (g := (s3 (s3 q_173 76 (u).toNatClampNeg (x_173_7).toNatClampNeg (((8 * x) + y))) 78 (u).toNatClampNeg (x_173_7).toNatClampNeg (zz))) (tn_lt (by (try simp only [Int32.le_iff_toInt_le, Int32.lt_iff_toInt_lt, ← Int32.toInt_inj, Int32.reduceToInt] at c_2 c_5 c_7 c_8 c_9 c_10 c_11 c_13 c_14 c_15 c_17 b_1 b_4 b_6 hq_52 hr_52 b_16 hq_173 hr_173 hu hg hf h9u ⊢); omega))) (by (try simp only [Int32.le_iff_toInt_le, Int32.lt_iff_toInt_lt, ← Int32.toInt_inj, vp_in_iff, Int32.reduceToInt] at c_2 c_5 c_7 c_8 c_9 c_10 c_11 c_13 c_14 c_15 c_17 b_1 b_4 b_6 hq_52 hr_52 b_16 hq_173 hr_173 hu hg hf h9u ⊢) <;> omega) dX12_draft_288 ?_
                                refine v_h (h2 := (wm (s3 (s3 (s3 q_173 76 (u).toNatClampNeg (x_173_7).toNatClampNeg (((8 * x) + y))) 78 (u).toNatClampNeg (x_173_7).toNatClampNeg (zz)) 80 (u).toNatClampNeg (x_173_7).toNatClampNeg ((g 63 (x).toNatClampNeg (y).toNatClampNeg))) r)) (u_80_a (g := (s3 (s3 q_173 76 (u).toNatClampNeg (x_173_7).toNatClampNeg (((8 * x) + y))) 78 (u).toNatClampNeg (x_173_7).toNatClampNeg (zz))) (tn_lt (by (try simp only [Int32.le_iff_toInt_le, Int32.lt_iff_toInt_lt, ← Int32.toInt_inj, Int32.reduceToInt] at c_2 c_5 c_7 c_8 c_9 c_10 c_11 c_13 c_14 c_15 c_17 b_1 b_4 b_6 hq_52 hr_52 b_16 hq_173 hr_173 hu hg hf h9u ⊢); omega))) ?_
                                refine v_aload_n (pc := 289) C dX12_draft_289 2 rfl rfl ?_
                                refine v_get (pc := 290) C (40, 0) (v := .ref (A (81, 0))) ck_40 rfl 41 (by decide) inX12 wd_1429 rfl rfl dX12_draft_290 ?_
                                refine v_iload_n (pc := 293) C dX12_draft_293 3 rfl rfl ?_
                                refine v_iload (pc := 294) C dX12_draft_294 1 rfl ?_
                                refine v_iconst (v := 1) (pc := 296) C dX12_draft_296 rfl ?_
                                refine v_iadd (pc := 297) C dX12_draft_297 ?_
                                refine v_iast (pc := 298) C (81, 0) (x := (x_173_7 + 1)) ck_81 (by (try simp only [Int32.le_iff_toInt_le, Int32.lt_iff_toInt_lt, ← Int32.toInt_inj, vp_in_iff, Int32.reduceToInt] at c_2 c_5 c_7 c_8 c_9 c_10 c_11 c_13 c_14 c_15 c_17 b_1 b_4 b_6 hq_52 hr_52 b_16 hq_173 hr_173 hu hg hf h9u ⊢) <;> omega) dX12_draft_298 ?_
                                refine v_h (h2 := (wm (s3 (s3 (s3 (s3 q_173 76 (u).toNatClampNeg (x_173_7).toNatClampNeg (((8 * x) + y))) 78 (u).toNatClampNeg (x_173_7).toNatClampNeg (zz)) 80 (u).toNatClampNeg (x_173_7).toNatClampNeg ((g 63 (x).toNatClampNeg (y).toNatClampNeg))) 81 (u).toNatClampNeg 0 ((x_173_7 + 1))) r)) (u_81_a) ?_
                                refine v_aload_n (pc := 299) C dX12_draft_299 2 rfl rfl ?_
                                refine v_get (pc := 300) C (40, 0) (v := .ref (A (81, 0))) ck_40 rfl 41 (by decide) inX12 wd_1429 rfl rfl dX12_draft_300 ?_
                                refine v_iload_n (pc := 303) C dX12_draft_303 3 rfl rfl ?_
                                refine v_iald (pc := 304) C (81, 0) (v := (x_173_7 + 1)) ck_81 (by (try simp only [Int32.le_iff_toInt_le, Int32.lt_iff_toInt_lt, ← Int32.toInt_inj, vp_in_iff, Int32.reduceToInt] at c_2 c_5 c_7 c_8 c_9 c_10 c_11 c_13 c_14 c_15 c_17 b_1 b_4 b_6 hq_52 hr_52 b_16 hq_173 hr_173 hu hg hf h9u ⊢) <;> omega) (s3_s) dX12_draft_304 ?_
                                exact v_iret (pc := 305) C (by decide) (by decide) dX12_draft_305 ⟨(congrArg (fun q => some (Value.int q)) (by show _ = _; rw [eV_173, VL_X12_draft_173, if_pos c_17])), rfl, (congrArg (fun q => wm q r) (by show _ = _; rw [eS_173, SL_X12_draft_173, if_pos c_17]))⟩
                              · skip
                                refine v_aload_n (pc := 180) C dX12_draft_180 2 rfl rfl ?_
                                refine v_get (pc := 181) C (40, 0) (v := .ref (A (75, 0))) ck_40 rfl 38 (by decide) inX12 wd_1426 rfl rfl dX12_draft_181 ?_
                                refine v_iload_n (pc := 184) C dX12_draft_184 3 rfl rfl ?_
                                refine v_aald (pc := 185) C (75, 0) ck_75 rfl rfl (by (try simp only [Int32.le_iff_toInt_le, Int32.lt_iff_toInt_lt, ← Int32.toInt_inj, vp_in_iff, Int32.reduceToInt] at c_2 c_5 c_7 c_8 c_9 c_10 c_11 c_13 c_14 c_15 c_17 b_1 b_4 b_6 hq_52 hr_52 b_16 hq_173 hr_173 hu hg hf h9u ⊢) <;> omega) (76, (u).toNatClampNeg) rfl dX12_draft_185 ?_
                                refine v_iload (pc := 186) C dX12_draft_186 0 rfl ?_
                                refine v_aload_n (pc := 188) C dX12_draft_188 2 rfl rfl ?_
                                refine v_get (pc := 189) C (40, 0) (v := .ref (A (75, 0))) ck_40 rfl 38 (by decide) inX12 wd_1426 rfl rfl dX12_draft_189 ?_
                                refine v_iload_n (pc := 192) C dX12_draft_192 3 rfl rfl ?_
                                refine v_aald (pc := 193) C (75, 0) ck_75 rfl rfl (by (try simp only [Int32.le_iff_toInt_le, Int32.lt_iff_toInt_lt, ← Int32.toInt_inj, vp_in_iff, Int32.reduceToInt] at c_2 c_5 c_7 c_8 c_9 c_10 c_11 c_13 c_14 c_15 c_17 b_1 b_4 b_6 hq_52 hr_52 b_16 hq_173 hr_173 hu hg hf h9u ⊢) <;> omega) (76, (u).toNatClampNeg) rfl dX12_draft_193 ?_
                                refine v_iload (pc := 194) C dX12_draft_194 0 rfl ?_
                                refine v_iconst (v := 1) (pc := 196) C dX12_draft_196 rfl ?_
                                refine v_iadd (pc := 197) C dX12_draft_197 ?_
                                refine v_nm (y := .int (nI (i_173 + 1))) (congrArg Value.int (nI_1 _)) ?_
                                refine v_iald (pc := 198) C (76, (u).toNatClampNeg) (v := (q_173 76 (u).toNatClampNeg (i_173 + 1))) (ck_76 (g := q_173) (tn_lt (by (try simp only [Int32.le_iff_toInt_le, Int32.lt_iff_toInt_lt, ← Int32.toInt_inj, Int32.reduceToInt] at c_2 c_5 c_7 c_8 c_9 c_10 c_11 c_13 c_14 c_15 c_17 b_1 b_4 b_6 hq_52 hr_52 b_16 hq_173 hr_173 hu hg hf h9u ⊢); omega))) (by (try simp only [Int32.le_iff_toInt_le, Int32.lt_iff_toInt_lt, ← Int32.toInt_inj, vp_in_iff, Int32.reduceToInt] at c_2 c_5 c_7 c_8 c_9 c_10 c_11 c_13 c_14 c_15 c_17 b_1 b_4 b_6 hq_52 hr_52 b_16 hq_173 hr_173 hu hg hf h9u ⊢) <;> omega) ((congrArg (fun k => q_173 76 (u).toNatClampNeg k) (show (nI (i_173 + 1) : Int32).toNatClampNeg = (i_173 + 1) from (nI_clamp (by omega)))).trans rfl) dX12_draft_198 ?_
                                refine v_iast (pc := 199) C (76, (u).toNatClampNeg) (x := (q_173 76 (u).toNatClampNeg (i_173 + 1))) (ck_76 (g := q_173) (tn_lt (by (try simp only [Int32.le_iff_toInt_le, Int32.lt_iff_toInt_lt, ← Int32.toInt_inj, Int32.reduceToInt] at c_2 c_5 c_7 c_8 c_9 c_10 c_11 c_13 c_14 c_15 c_17 b_1 b_4 b_6 hq_52 hr_52 b_16 hq_173 hr_173 hu hg hf h9u ⊢); omega))) (by (try simp only [Int32.le_iff_toInt_le, Int32.lt_iff_toInt_lt, ← Int32.toInt_inj, vp_in_iff, Int32.reduceToInt] at c_2 c_5 c_7 c_8 c_9 c_10 c_11 c_13 c_14 c_15 c_17 b_1 b_4 b_6 hq_52 hr_52 b_16 hq_173 hr_173 hu hg hf h9u ⊢) <;> omega) dX12_draft_199 ?_
                                rw [show (nI i_173 : Int32).toNatClampNeg = i_173 from (nI_clamp (by omega))]
                                refine v_h (h2 := (wm (s3 q_173 76 (u).toNatClampNeg i_173 ((q_173 76 (u).toNatClampNeg (i_173 + 1)))) r)) (u_76_a (g := q_173) (tn_lt (by (try simp only [Int32.le_iff_toInt_le, Int32.lt_iff_toInt_lt, ← Int32.toInt_inj, Int32.reduceToInt] at c_2 c_5 c_7 c_8 c_9 c_10 c_11 c_13 c_14 c_15 c_17 b_1 b_4 b_6 hq_52 hr_52 b_16 hq_173 hr_173 hu hg hf h9u ⊢); omega))) ?_
                                refine v_aload_n (pc := 200) C dX12_draft_200 2 rfl rfl ?_
                                refine v_get (pc := 201) C (40, 0) (v := .ref (A (77, 0))) ck_40 rfl 39 (by decide) inX12 wd_1427 rfl rfl dX12_draft_201 ?_
                                refine v_iload_n (pc := 204) C dX12_draft_204 3 rfl rfl ?_
                                refine v_aald (pc := 205) C (77, 0) ck_77 rfl rfl (by (try simp only [Int32.le_iff_toInt_le, Int32.lt_iff_toInt_lt, ← Int32.toInt_inj, vp_in_iff, Int32.reduceToInt] at c_2 c_5 c_7 c_8 c_9 c_10 c_11 c_13 c_14 c_15 c_17 b_1 b_4 b_6 hq_52 hr_52 b_16 hq_173 hr_173 hu hg hf h9u ⊢) <;> omega) (78, (u).toNatClampNeg) rfl dX12_draft_205 ?_
                                refine v_iload (pc := 206) C dX12_draft_206 0 rfl ?_
                                refine v_aload_n (pc := 208) C dX12_draft_208 2 rfl rfl ?_
                                refine v_get (pc := 209) C (40, 0) (v := .ref (A (77, 0))) ck_40 rfl 39 (by decide) inX12 wd_1427 rfl rfl dX12_draft_209 ?_
                                refine v_iload_n (pc := 212) C dX12_draft_212 3 rfl rfl ?_
                                refine v_aald (pc := 213) C (77, 0) ck_77 rfl rfl (by (try simp only [Int32.le_iff_toInt_le, Int32.lt_iff_toInt_lt, ← Int32.toInt_inj, vp_in_iff, Int32.reduceToInt] at c_2 c_5 c_7 c_8 c_9 c_10 c_11 c_13 c_14 c_15 c_17 b_1 b_4 b_6 hq_52 hr_52 b_16 hq_173 hr_173 hu hg hf h9u ⊢) <;> omega) (78, (u).toNatClampNeg) rfl dX12_draft_213 ?_
                                refine v_iload (pc := 214) C dX12_draft_214 0 rfl ?_
                                refine v_iconst (v := 1) (pc := 216) C dX12_draft_216 rfl ?_
                                refine v_iadd (pc := 217) C dX12_draft_217 ?_
                                refine v_nm (y := .int (nI (i_173 + 1))) (congrArg Value.int (nI_1 _)) ?_
                                refine v_iald (pc := 218) C (78, (u).toNatClampNeg) (v := (q_173 78 (u).toNatClampNeg (i_173 + 1))) (ck_78 (g := (s3 q_173 76 (u).toNatClampNeg i_173 ((q_173 76 (u).toNatClampNeg (i_173 + 1))))) (tn_lt (by (try simp only [Int32.le_iff_toInt_le, Int32.lt_iff_toInt_lt, ← Int32.toInt_inj, Int32.reduceToInt] at c_2 c_5 c_7 c_8 c_9 c_10 c_11 c_13 c_14 c_15 c_17 b_1 b_4 b_6 hq_52 hr_52 b_16 hq_173 hr_173 hu hg hf h9u ⊢); omega))) (by (try simp only [Int32.le_iff_toInt_le, Int32.lt_iff_toInt_lt, ← Int32.toInt_inj, vp_in_iff, Int32.reduceToInt] at c_2 c_5 c_7 c_8 c_9 c_10 c_11 c_13 c_14 c_15 c_17 b_1 b_4 b_6 hq_52 hr_52 b_16 hq_173 hr_173 hu hg hf h9u ⊢) <;> omega) ((congrArg (fun k => (s3 q_173 76 (u).toNatClampNeg i_173 ((q_173 76 (u).toNatClampNeg (i_173 + 1)))) 78 (u).toNatClampNeg k) (show (nI (i_173 + 1) : Int32).toNatClampNeg = (i_173 + 1) from (nI_clamp (by omega)))).trans rfl) dX12_draft_218 ?_
                                refine v_iast (pc := 219) C (78, (u).toNatClampNeg) (x := (q_173 78 (u).toNatClampNeg (i_173 + 1))) (ck_78 (g := (s3 q_173 76 (u).toNatClampNeg i_173 ((q_173 76 (u).toNatClampNeg (i_173 + 1))))) (tn_lt (by (try simp only [Int32.le_iff_toInt_le, Int32.lt_iff_toInt_lt, ← Int32.toInt_inj, Int32.reduceToInt] at c_2 c_5 c_7 c_8 c_9 c_10 c_11 c_13 c_14 c_15 c_17 b_1 b_4 b_6 hq_52 hr_52 b_16 hq_173 hr_173 hu hg hf h9u ⊢); omega))) (by (try simp only [Int32.le_iff_toInt_le, Int32.lt_iff_toInt_lt, ← Int32.toInt_inj, vp_in_iff, Int32.reduceToInt] at c_2 c_5 c_7 c_8 c_9 c_10 c_11 c_13 c_14 c_15 c_17 b_1 b_4 b_6 hq_52 hr_52 b_16 hq_173 hr_173 hu hg hf h9u ⊢) <;> omega) dX12_draft_219 ?_
                                rw [show (nI i_173 : Int32).toNatClampNeg = i_173 from (nI_clamp (by omega))]
                                refine v_h (h2 := (wm (s3 (s3 q_173 76 (u).toNatClampNeg i_173 ((q_173 76 (u).toNatClampNeg (i_173 + 1)))) 78 (u).toNatClampNeg i_173 ((q_173 78 (u).toNatClampNeg (i_173 + 1)))) r)) (u_78_a (g := (s3 q_173 76 (u).toNatClampNeg i_173 ((q_173 76 (u).toNatClampNeg (i_173 + 1))))) (tn_lt (by (try simp only [Int32.le_iff_toInt_le, Int32.lt_iff_toInt_lt, ← Int32.toInt_inj, Int32.reduceToInt] at c_2 c_5 c_7 c_8 c_9 c_10 c_11 c_13 c_14 c_15 c_17 b_1 b_4 b_6 hq_52 hr_52 b_16 hq_173 hr_173 hu hg hf h9u ⊢); omega))) ?_
                                refine v_aload_n (pc := 220) C dX12_draft_220 2 rfl rfl ?_
                                refine v_get (pc := 221) C (40, 0) (v := .ref (A (79, 0))) ck_40 rfl 40 (by decide) inX12 wd_1428 rfl rfl dX12_draft_221 ?_
                                refine v_iload_n (pc := 224) C dX12_draft_224 3 rfl rfl ?_
                                refine v_aald (pc := 225) C (79, 0) ck_79 rfl rfl (by (try simp only [Int32.le_iff_toInt_le, Int32.lt_iff_toInt_lt, ← Int32.toInt_inj, vp_in_iff, Int32.reduceToInt] at c_2 c_5 c_7 c_8 c_9 c_10 c_11 c_13 c_14 c_15 c_17 b_1 b_4 b_6 hq_52 hr_52 b_16 hq_173 hr_173 hu hg hf h9u ⊢) <;> omega) (80, (u).toNatClampNeg) rfl dX12_draft_225 ?_
                                refine v_iload (pc := 226) C dX12_draft_226 0 rfl ?_
                                refine v_aload_n (pc := 228) C dX12_draft_228 2 rfl rfl ?_
                                refine v_get (pc := 229) C (40, 0) (v := .ref (A (79, 0))) ck_40 rfl 40 (by decide) inX12 wd_1428 rfl rfl dX12_draft_229 ?_
                                refine v_iload_n (pc := 232) C dX12_draft_232 3 rfl rfl ?_
                                refine v_aald (pc := 233) C (79, 0) ck_79 rfl rfl (by (try simp only [Int32.le_iff_toInt_le, Int32.lt_iff_toInt_lt, ← Int32.toInt_inj, vp_in_iff, Int32.reduceToInt] at c_2 c_5 c_7 c_8 c_9 c_10 c_11 c_13 c_14 c_15 c_17 b_1 b_4 b_6 hq_52 hr_52 b_16 hq_173 hr_173 hu hg hf h9u ⊢) <;> omega) (80, (u).toNatClampNeg) rfl dX12_draft_233 ?_
                                refine v_iload (pc := 234) C dX12_draft_234 0 rfl ?_
                                refine v_iconst (v := 1) (pc := 236) C dX12_draft_236 rfl ?_
                                refine v_iadd (pc := 237) C dX12_draft_237 ?_
                                refine v_nm (y := .int (nI (i_173 + 1))) (congrArg Value.int (nI_1 _)) ?_
                                refine v_iald (pc := 238) C (80, (u).toNatClampNeg) (v := (q_173 80 (u).toNatClampNeg (i_173 + 1))) (ck_80 (g := (s3 (s3 q_173 76 (u).toNatClampNeg i_173 ((q_173 76 (u).toNatClampNeg (i_173 + 1)))) 78 (u).toNatClampNeg i_173 ((q_173 78 (u).toNatClampNeg (i_173 + 1))))) (tn_lt (by (try simp only [Int32.le_iff_toInt_le, Int32.lt_iff_toInt_lt, ← Int32.toInt_inj, Int32.reduceToInt] at c_2 c_5 c_7 c_8 c_9 c_10 c_11 c_13 c_14 c_15 c_17 b_1 b_4 b_6 hq_52 hr_52 b_16 hq_173 hr_173 hu hg hf h9u ⊢); omega))) (by (try simp only [Int32.le_iff_toInt_le, Int32.lt_iff_toInt_lt, ← Int32.toInt_inj, vp_in_iff, Int32.reduceToInt] at c_2 c_5 c_7 c_8 c_9 c_10 c_11 c_13 c_14 c_15 c_17 b_1 b_4 b_6 hq_52 hr_52 b_16 hq_173 hr_173 hu hg hf h9u ⊢) <;> omega) ((congrArg (fun k => (s3 (s3 q_173 76 (u).toNatClampNeg i_173 ((q_173 76 (u).toNatClampNeg (i_173 + 1)))) 78 (u).toNatClampNeg i_173 ((q_173 78 (u).toNatClampNeg (i_173 + 1)))) 80 (u).toNatClampNeg k) (show (nI (i_173 + 1) : Int32).toNatClampNeg = (i_173 + 1) from (nI_clamp (by omega)))).trans rfl) dX12_draft_238 ?_
                                refine v_iast (pc := 239) C (80, (u).toNatClampNeg) (x := (q_173 80 (u).toNatClampNeg (i_173 + 1))) (ck_80 (g := (s3 (s3 q_173 76 (u).toNatClampNeg i_173 ((q_173 76 (u).toNatClampNeg (i_173 + 1)))) 78 (u).toNatClampNeg i_173 ((q_173 78 (u).toNatClampNeg (i_173 + 1))))) (tn_lt (by (try simp only [Int32.le_iff_toInt_le, Int32.lt_iff_toInt_lt, ← Int32.toInt_inj, Int32.reduceToInt] at c_2 c_5 c_7 c_8 c_9 c_10 c_11 c_13 c_14 c_15 c_17 b_1 b_4 b_6 hq_52 hr_52 b_16 hq_173 hr_173 hu hg hf h9u ⊢); omega))) (by (try simp only [Int32.le_iff_toInt_le, Int32.lt_iff_toInt_lt, ← Int32.toInt_inj, vp_in_iff, Int32.reduceToInt] at c_2 c_5 c_7 c_8 c_9 c_10 c_11 c_13 c_14 c_15 c_17 b_1 b_4 b_6 hq_52 hr_52 b_16 hq_173 hr_173 hu hg hf h9u ⊢) <;> omega) dX12_draft_239 ?_
                                rw [show (nI i_173 : Int32).toNatClampNeg = i_173 from (nI_clamp (by omega))]
                                refine v_h (h2 := (wm (s3 (s3 (s3 q_173 76 (u).toNatClampNeg i_173 ((q_173 76 (u).toNatClampNeg (i_173 + 1)))) 78 (u).toNatClampNeg i_173 ((q_173 78 (u).toNatClampNeg (i_173 + 1)))) 80 (u).toNatClampNeg i_173 ((q_173 80 (u).toNatClampNeg (i_173 + 1)))) r)) (u_80_a (g := (s3 (s3 q_173 76 (u).toNatClampNeg i_173 ((q_173 76 (u).toNatClampNeg (i_173 + 1)))) 78 (u).toNatClampNeg i_173 ((q_173 78 (u).toNatClampNeg (i_173 + 1))))) (tn_lt (by (try simp only [Int32.le_iff_toInt_le, Int32.lt_iff_toInt_lt, ← Int32.toInt_inj, Int32.reduceToInt] at c_2 c_5 c_7 c_8 c_9 c_10 c_11 c_13 c_14 c_15 c_17 b_1 b_4 b_6 hq_52 hr_52 b_16 hq_173 hr_173 hu hg hf h9u ⊢); omega))) ?_
                                refine v_iinc (v := nI (i_173 + 1)) (lv2 := [(8, .int (nI (i_173 + 1))), (7, .int (x_173_7)), (0, .ref (A (40, 0))), (1, .int (u)), (2, .int (x)), (3, .int (y)), (4, .int (zz))]) (pc := 240) C dX12_draft_240 0 rfl (nI_1 _) (by decide) rfl ?_
                                refine v_goto (tgt := 173) (pc := 243) C dX12_draft_243 (by decide) ?_
                                refine v_lv (lv2 := [(8, .int (nI (i_173 + 1))), (7, .int (x_173_7)), (0, .ref (A (40, 0))), (1, .int (u)), (2, .int (x)), (3, .int (y)), (4, .int (zz))]) [0, 1, 2, 3, 4, 5, 6] rfl ?_
                                exact ih (i_173 + 1) (x_173_7) (s3 (s3 (s3 q_173 76 (u).toNatClampNeg i_173 ((q_173 76 (u).toNatClampNeg (i_173 + 1)))) 78 (u).toNatClampNeg i_173 ((q_173 78 (u).toNatClampNeg (i_173 + 1)))) 80 (u).toNatClampNeg i_173 ((q_173 80 (u).toNatClampNeg (i_173 + 1)))) (by (try simp only [Int32.le_iff_toInt_le, Int32.lt_iff_toInt_lt, ← Int32.toInt_inj, vp_in_iff, Int32.reduceToInt] at c_2 c_5 c_7 c_8 c_9 c_10 c_11 c_13 c_14 c_15 c_17 b_1 b_4 b_6 hq_52 hr_52 b_16 hq_173 hr_173 hu hg hf h9u ⊢) <;> omega) (by omega) (fun c i j h1 h76 h78 h80 => (s3_k h80).trans ((s3_k h78).trans ((s3_k h76).trans (hF_173 c i j h1 h76 h78 h80)))) hz_173 (by rw [eV_173, VL_X12_draft_173, if_neg c_17]) (by rw [eS_173, SL_X12_draft_173, if_neg c_17])
                          refine v_lv (lv2 := [(8, .int (x_52_5)), (7, .int (((g 81 (u).toNatClampNeg 0) - 1))), (0, .ref (A (40, 0))), (1, .int (u)), (2, .int (x)), (3, .int (y)), (4, .int (zz))]) [0, 1, 4, 5, 6, 7, 8] rfl ?_
                          refine v_lve (lv2 := [(8, .int (nI (x_52_5).toNatClampNeg)), (7, .int (((g 81 (u).toNatClampNeg 0) - 1))), (0, .ref (A (40, 0))), (1, .int (u)), (2, .int (x)), (3, .int (y)), (4, .int (zz))]) (by rw [nI_tn (show ¬ x_52_5 < 0 from by rw [Int32.lt_iff_toInt_lt, show (0 : Int32).toInt = 0 from by decide]; omega)]) ?_
                          exact L_173 (10 + 1) (x_52_5).toNatClampNeg (((g 81 (u).toNatClampNeg 0) - 1)) (S_X12_isWrong q_52 (0)) (tn_le (by omega)) (by omega) (fun c i j h1 h76 h78 h80 => (F_X12_isWrong h1).trans (hF_52 c i j h1)) (by (try simp only [Int32.le_iff_toInt_le, Int32.lt_iff_toInt_lt, ← Int32.toInt_inj, Int32.reduceToInt] at c_2 c_5 c_7 c_8 c_9 c_10 c_11 c_13 c_14 c_15 b_1 b_4 b_6 hq_52 hr_52 b_16 ⊢); omega) (by rw [eV_52, VL_X12_draft_52, if_pos c_9, if_neg c_10, if_neg c_11]) (by rw [eS_52, SL_X12_draft_52, if_pos c_9, if_neg c_10, if_neg c_11])
                        · skip
                          exact absurd c_15 (by decide)
                      · skip
                        exact absurd c_14 (fun q9 => q9 ((show (0 : Int32) = 0 from rfl)))
                    · skip
                      exact absurd c_13 (by decide)
                · skip
                  refine v_iconst (v := 1) (pc := 107) C dX12_draft_107 rfl ?_
                  refine v_goto (tgt := 112) (pc := 108) C dX12_draft_108 (by decide) ?_
                  refine v_istore (lv2 := [(6, .int (1)), (5, .int (x_52_5)), (0, .ref (A (40, 0))), (1, .int (u)), (2, .int (x)), (3, .int (y)), (4, .int (zz))]) (pc := 112) C dX12_draft_112 (by decide) rfl ?_
                  refine v_aload_n (pc := 114) C dX12_draft_114 2 rfl rfl ?_
                  refine v_aload_n (pc := 115) C dX12_draft_115 2 rfl rfl ?_
                  refine v_get (pc := 116) C (40, 0) (v := .ref (A (47, 0))) ck_40 rfl 7 (by decide) inX12 wd_1395 rfl rfl dX12_draft_116 ?_
                  refine v_iload_n (pc := 119) C dX12_draft_119 3 rfl rfl ?_
                  refine v_zald (pc := 120) C (47, 0) (v := (g 47 (u).toNatClampNeg 0)) ck_47 (by (try simp only [Int32.le_iff_toInt_le, Int32.lt_iff_toInt_lt, ← Int32.toInt_inj, vp_in_iff, Int32.reduceToInt] at c_2 c_5 c_7 c_8 c_9 c_10 b_1 b_4 b_6 hq_52 hr_52 hu hg hf h9u ⊢) <;> omega) (hF_52 _ _ _ (by decide)) dX12_draft_120 ?_
                  refine v_if_eq (pc := 121) (tgt := 136) C dX12_draft_121 (by decide) (fun c_18 => ?_) (fun c_18 => ?_)
                  · skip
                    refine v_iconst (v := 3) (pc := 136) C dX12_draft_136 rfl ?_
                    refine v_goto (tgt := 141) (pc := 137) C dX12_draft_137 (by decide) ?_
                    refine v_callV (pc := 141) C (40, 0) ck_40 rfl (c_X12_isWrong hG (g := q_52) (3) ) 1 wd_1531 wd_68 wd_1528 wd_1530 wd_35 (by decide +kernel) (by decide) (by decide) rfl ([]) rfl (Nat.le_of_ble_eq_true rfl) (by decide) dX12_draft_141 (fun _ _ _ q => q.elim) (fun v9 A9 h9 hR9 => ?_)
                    obtain ⟨rfl, hA9, rfl⟩ := hR9
                    obtain rfl := hA9.symm
                    refine v_st (k2 := 0) (n2 := 0) (st2 := [.int ((V_X12_isWrong q_52 (3)))]) rfl rfl rfl ?_
                    refine v_if_eq (pc := 144) (tgt := 149) C dX12_draft_144 (by decide) (fun c_19 => ?_) (fun c_19 => ?_)
                    · skip
                      exact absurd c_19 (fun q9 => ((show ¬ (1 : Int32) = 0 from by decide)) q9)
                    · skip
                      refine v_iconst (v := 0) (pc := 147) C dX12_draft_147 rfl ?_
                      exact v_iret (pc := 148) C (by decide) (by decide) dX12_draft_148 ⟨(congrArg (fun q => some (Value.int q)) (by show _ = _; rw [eV_52, VL_X12_draft_52, if_pos c_9, if_pos c_10, if_pos c_18])), rfl, (congrArg (fun q => wm q r) (by show _ = _; rw [eS_52, SL_X12_draft_52, if_pos c_9, if_pos c_10, if_pos c_18]))⟩
                  · skip
                    refine v_iload (pc := 124) C dX12_draft_124 0 rfl ?_
                    refine v_if_eq (pc := 126) (tgt := 140) C dX12_draft_126 (by decide) (fun c_20 => ?_) (fun c_20 => ?_)
                    · skip
                      exact absurd c_20 (by decide)
                    · skip
                      refine v_iload (pc := 129) C dX12_draft_129 1 rfl ?_
                      refine v_bipush (v := 10) (pc := 131) C dX12_draft_131 (by decide) ?_
                      refine v_icmp_ne (pc := 133) (tgt := 140) C dX12_draft_133 (by decide) (fun c_21 => ?_) (fun c_21 => ?_)
                      · skip
                        refine v_iconst (v := 0) (pc := 140) C dX12_draft_140 rfl ?_
                        refine v_callV (pc := 141) C (40, 0) ck_40 rfl (c_X12_isWrong hG (g := q_52) (0) ) 1 wd_1531 wd_68 wd_1528 wd_1530 wd_35 (by decide +kernel) (by decide) (by decide) rfl ([]) rfl (Nat.le_of_ble_eq_true rfl) (by decide) dX12_draft_141 (fun _ _ _ q => q.elim) (fun v9 A9 h9 hR9 => ?_)
                        obtain ⟨rfl, hA9, rfl⟩ := hR9
                        obtain rfl := hA9.symm
                        refine v_st (k2 := 0) (n2 := 0) (st2 := [.int ((V_X12_isWrong q_52 (0)))]) rfl rfl rfl ?_
                        refine v_if_eq (pc := 144) (tgt := 149) C dX12_draft_144 (by decide) (fun c_22 => ?_) (fun c_22 => ?_)
                        · skip
                          refine v_iload (pc := 149) C dX12_draft_149 0 rfl ?_
                          refine v_if_eq (pc := 151) (tgt := 159) C dX12_draft_151 (by decide) (fun c_23 => ?_) (fun c_23 => ?_)
                          · skip
                            exact absurd c_23 (by decide)
                          · skip
                            refine v_iload (pc := 154) C dX12_draft_154 1 rfl ?_
                            refine v_goto (tgt := 167) (pc := 156) C dX12_draft_156 (by decide) ?_
                            refine v_istore (lv2 := [(7, .int (x_52_5)), (6, .int (1)), (5, .int (x_52_5)), (0, .ref (A (40, 0))), (1, .int (u)), (2, .int (x)), (3, .int (y)), (4, .int (zz))]) (pc := 167) C dX12_draft_167 (by decide) rfl ?_
                            refine v_iload (pc := 169) C dX12_draft_169 2 rfl ?_
                            refine v_istore (lv2 := [(8, .int (x_52_5)), (7, .int (x_52_5)), (6, .int (1)), (5, .int (x_52_5)), (0, .ref (A (40, 0))), (1, .int (u)), (2, .int (x)), (3, .int (y)), (4, .int (zz))]) (pc := 171) C dX12_draft_171 (by decide) rfl ?_
                            have L_173 : ∀ (n : Nat) (i_173 : Nat) (x_173_7 : Int32) (q_173 : vS), i_173 ≤ 10 → 10 + 1 ≤ i_173 + n → (∀ (c i j : Nat), c ≠ 1 → c ≠ 76 → c ≠ 78 → c ≠ 80 → q_173 c i j = g c i j) → 0 ≤ (x_173_7).toInt ∧ (x_173_7).toInt ≤ 9 → (V_X12_draft g u x y zz) = VL_X12_draft_173 g u x y zz n i_173 x_173_7 q_173 → (S_X12_draft g u x y zz) = SL_X12_draft_173 g u x y zz n i_173 x_173_7 q_173 → V G 9 X A (wm q_173 r) 0 0 (vM G X (fun v A2 h2 => v = some (.int (V_X12_draft g u x y zz)) ∧ A2 = A ∧ h2 = wm (S_X12_draft g u x y zz) r) (vNoX) 0 0) 173 [(8, .int (nI i_173)), (7, .int (x_173_7)), (0, .ref (A (40, 0))), (1, .int (u)), (2, .int (x)), (3, .int (y)), (4, .int (zz))] [] := by
                              intro n
                              induction n with
                              | zero => intro i_173 x_173_7 q_173 hi_173 hc_173 hF_173 hz_173 eV_173 eS_173; exact absurd hc_173 (by omega)
                              | succ n ih =>
                                intro i_173 x_173_7 q_173 hi_173 hc_173 hF_173 hz_173 eV_173 eS_173
                                have hq_173 : (nI i_173).toInt = (i_173 : Int) := nI_toInt (by omega)
                                have hr_173 : (nI (i_173 + 1)).toInt = ((i_173 + 1 : Nat) : Int) := nI_toInt (by omega)
                                refine v_iload (pc := 173) C dX12_draft_173 0 rfl ?_
                                refine v_iload (pc := 175) C dX12_draft_175 1 rfl ?_
                                refine v_icmp_ge (pc := 177) (tgt := 246) C dX12_draft_177 (by decide) (fun c_24 => ?_) (fun c_24 => ?_)
                                · skip
                                  refine v_aload_n (pc := 246) C dX12_draft_246 2 rfl rfl ?_
                                  refine v_get (pc := 247) C (40, 0) (v := .ref (A (75, 0))) ck_40 rfl 38 (by decide) inX12 wd_1426 rfl rfl dX12_draft_247 ?_
                                  refine v_iload_n (pc := 250) C dX12_draft_250 3 rfl rfl ?_
                                  refine v_aald (pc := 251) C (75, 0) ck_75 rfl rfl (by (try simp only [Int32.le_iff_toInt_le, Int32.lt_iff_toInt_lt, ← Int32.toInt_inj, vp_in_iff, Int32.reduceToInt] at c_2 c_5 c_7 c_8 c_9 c_10 c_18 c_20 c_21 c_22 c_23 c_24 b_1 b_4 b_6 hq_52 hr_52 hq_173 hr_173 hu hg hf h9u ⊢) <;> omega) (76, (u).toNatClampNeg) rfl dX12_draft_251 ?_
                                  refine v_iload (pc := 252) C dX12_draft_252 1 rfl ?_
                                  refine v_bipush (v := 8) (pc := 254) C dX12_draft_254 (by decide) ?_
                                  refine v_iload_n (pc := 256) C dX12_draft_256 4 rfl rfl ?_
                                  refine v_imul (pc := 257) C dX12_draft_257 ?_
                                  refine v_iload_n (pc := 258) C dX12_draft_258 5 rfl rfl ?_
                                  refine v_iadd (pc := 259) C dX12_draft_259 ?_
                                  refine v_iast (pc := 260) C (76, (u).toNatClampNeg) (x := ((8 * x) + y)) (ck_76 (g := q_173) (tn_lt (by (try simp only [Int32.le_iff_toInt_le, Int32.lt_iff_toInt_lt, ← Int32.toInt_inj, Int32.reduceToInt] at c_2 c_5 c_7 c_8 c_9 c_10 c_18 c_20 c_21 c_22 c_23 c_24 b_1 b_4 b_6 hq_52 hr_52 hq_173 hr_173 hu hg hf h9u ⊢); omega))) (by (try simp only [Int32.le_iff_toInt_le, Int32.lt_iff_toInt_lt, ← Int32.toInt_inj, vp_in_iff, Int32.reduceToInt] at c_2 c_5 c_7 c_8 c_9 c_10 c_18 c_20 c_21 c_22 c_23 c_24 b_1 b_4 b_6 hq_52 hr_52 hq_173 hr_173 hu hg hf h9u ⊢) <;> omega) dX12_draft_260 ?_
                                  refine v_h (h2 := (wm (s3 q_173 76 (u).toNatClampNeg (x_173_7).toNatClampNeg (((8 * x) + y))) r)) (u_76_a (g := q_173) (tn_lt (by (try simp only [Int32.le_iff_toInt_le, Int32.lt_iff_toInt_lt, ← Int32.toInt_inj, Int32.reduceToInt] at c_2 c_5 c_7 c_8 c_9 c_10 c_18 c_20 c_21 c_22 c_23 c_24 b_1 b_4 b_6 hq_52 hr_52 hq_173 hr_173 hu hg hf h9u ⊢); omega))) ?_
                                  refine v_aload_n (pc := 261) C dX12_draft_261 2 rfl rfl ?_
                                  refine v_get (pc := 262) C (40, 0) (v := .ref (A (77, 0))) ck_40 rfl 39 (by decide) inX12 wd_1427 rfl rfl dX12_draft_262 ?_
                                  refine v_iload_n (pc := 265) C dX12_draft_265 3 rfl rfl ?_
                                  refine v_aald (pc := 266) C (77, 0) ck_77 rfl rfl (by (try simp only [Int32.le_iff_toInt_le, Int32.lt_iff_toInt_lt, ← Int32.toInt_inj, vp_in_iff, Int32.reduceToInt] at c_2 c_5 c_7 c_8 c_9 c_10 c_18 c_20 c_21 c_22 c_23 c_24 b_1 b_4 b_6 hq_52 hr_52 hq_173 hr_173 hu hg hf h9u ⊢) <;> omega) (78, (u).toNatClampNeg) rfl dX12_draft_266 ?_
                                  refine v_iload (pc := 267) C dX12_draft_267 1 rfl ?_
                                  refine v_iload (pc := 269) C dX12_draft_269 6 rfl ?_
                                  refine v_iast (pc := 271) C (78, (u).toNatClampNeg) (x := zz) (ck_78 (g := (s3 q_173 76 (u).toNatClampNeg (x_173_7).toNatClampNeg (((8 * x) + y)))) (tn_lt (by (try simp only [Int32.le_iff_toInt_le, Int32.lt_iff_toInt_lt, ← Int32.toInt_inj, Int32.reduceToInt] at c_2 c_5 c_7 c_8 c_9 c_10 c_18 c_20 c_21 c_22 c_23 c_24 b_1 b_4 b_6 hq_52 hr_52 hq_173 hr_173 hu hg hf h9u ⊢); omega))) (by (try simp only [Int32.le_iff_toInt_le, Int32.lt_iff_toInt_lt, ← Int32.toInt_inj, vp_in_iff, Int32.reduceToInt] at c_2 c_5 c_7 c_8 c_9 c_10 c_18 c_20 c_21 c_22 c_23 c_24 b_1 b_4 b_6 hq_52 hr_52 hq_173 hr_173 hu hg hf h9u ⊢) <;> omega) dX12_draft_271 ?_
                                  refine v_h (h2 := (wm (s3 (s3 q_173 76 (u).toNatClampNeg (x_173_7).toNatClampNeg (((8 * x) + y))) 78 (u).toNatClampNeg (x_173_7).toNatClampNeg (zz)) r)) (u_78_a (g := (s3 q_173 76 (u).toNatClampNeg (x_173_7).toNatClampNeg (((8 * x) + y)))) (tn_lt (by (try simp only [Int32.le_iff_toInt_le, Int32.lt_iff_toInt_lt, ← Int32.toInt_inj, Int32.reduceToInt] at c_2 c_5 c_7 c_8 c_9 c_10 c_18 c_20 c_21 c_22 c_23 c_24 b_1 b_4 b_6 hq_52 hr_52 hq_173 hr_173 hu hg hf h9u ⊢); omega))) ?_
                                  refine v_aload_n (pc := 272) C dX12_draft_272 2 rfl rfl ?_
                                  refine v_get (pc := 273) C (40, 0) (v := .ref (A (79, 0))) ck_40 rfl 40 (by decide) inX12 wd_1428 rfl rfl dX12_draft_273 ?_
                                  refine v_iload_n (pc := 276) C dX12_draft_276 3 rfl rfl ?_
                                  refine v_aald (pc := 277) C (79, 0) ck_79 rfl rfl (by (try simp only [Int32.le_iff_toInt_le, Int32.lt_iff_toInt_lt, ← Int32.toInt_inj, vp_in_iff, Int32.reduceToInt] at c_2 c_5 c_7 c_8 c_9 c_10 c_18 c_20 c_21 c_22 c_23 c_24 b_1 b_4 b_6 hq_52 hr_52 hq_173 hr_173 hu hg hf h9u ⊢) <;> omega) (80, (u).toNatClampNeg) rfl dX12_draft_277 ?_
                                  refine v_iload (pc := 278) C dX12_draft_278 1 rfl ?_
                                  refine v_aload_n (pc := 280) C dX12_draft_280 2 rfl rfl ?_
                                  refine v_get (pc := 281) C (40, 0) (v := .ref (A (62, 0))) ck_40 rfl 20 (by decide) inX12 wd_1408 rfl rfl dX12_draft_281 ?_
                                  refine v_iload_n (pc := 284) C dX12_draft_284 4 rfl rfl ?_
                                  refine v_aald (pc := 285) C (62, 0) ck_62 rfl rfl (by (try simp only [Int32.le_iff_toInt_le, Int32.lt_iff_toInt_lt, ← Int32.toInt_inj, vp_in_iff, Int32.reduceToInt] at c_2 c_5 c_7 c_8 c_9 c_10 c_18 c_20 c_21 c_22 c_23 c_24 b_1 b_4 b_6 hq_52 hr_52 hq_173 hr_173 hu hg hf h9u ⊢) <;> omega) (63, (x).toNatClampNeg) rfl dX12_draft_285 ?_
                                  refine v_iload_n (pc := 286) C dX12_draft_286 5 rfl rfl ?_
                                  refine v_iald (pc := 287) C (63, (x).toNatClampNeg) (v := (g 63 (x).toNatClampNeg (y).toNatClampNeg)) (ck_63 (g := (s3 (s3 q_173 76 (u).toNatClampNeg (x_173_7).toNatClampNeg (((8 * x) + y))) 78 (u).toNatClampNeg (x_173_7).toNatClampNeg (zz))) (tn_lt (by (try simp only [Int32.le_iff_toInt_le, Int32.lt_iff_toInt_lt, ← Int32.toInt_inj, Int32.reduceToInt] at c_2 c_5 c_7 c_8 c_9 c_10 c_18 c_20 c_21 c_22 c_23 c_24 b_1 b_4 b_6 hq_52 hr_52 hq_173 hr_173 hu hg hf h9u ⊢); omega))) (by (try simp only [Int32.le_iff_toInt_le, Int32.lt_iff_toInt_lt, ← Int32.toInt_inj, vp_in_iff, Int32.reduceToInt] at c_2 c_5 c_7 c_8 c_9 c_10 c_18 c_20 c_21 c_22 c_23 c_24 b_1 b_4 b_6 hq_52 hr_52 hq_173 hr_173 hu hg hf h9u ⊢) <;> omega) ((s3_k (by decide)).trans ((s3_k (by decide)).trans (hF_173 _ _ _ (by decide) (by decide) (by decide) (by decide)))) dX12_draft_287 ?_
                                  refine v_iast (pc := 288) C (80, (u).toNatClampNeg) (x := (g 63 (x).toNatClampNeg (y).toNatClampNeg)) (ck_80 (g := (s3 (s3 q_173 76 (u).toNatClampNeg (x_173_7).toNatClampNeg (((8 * x) + y))) 78 (u).toNatClampNeg (x_173_7).toNatClampNeg (zz))) (tn_lt (by (try simp only [Int32.le_iff_toInt_le, Int32.lt_iff_toInt_lt, ← Int32.toInt_inj, Int32.reduceToInt] at c_2 c_5 c_7 c_8 c_9 c_10 c_18 c_20 c_21 c_22 c_23 c_24 b_1 b_4 b_6 hq_52 hr_52 hq_173 hr_173 hu hg hf h9u ⊢); omega))) (by (try simp only [Int32.le_iff_toInt_le, Int32.lt_iff_toInt_lt, ← Int32.toInt_inj, vp_in_iff, Int32.reduceToInt] at c_2 c_5 c_7 c_8 c_9 c_10 c_18 c_20 c_21 c_22 c_23 c_24 b_1 b_4 b_6 hq_52 hr_52 hq_173 hr_173 hu hg hf h9u ⊢) <;> omega) dX12_draft_288 ?_
                                  refine v_h (h2 := (wm (s3 (s3 (s3 q_173 76 (u).toNatClampNeg (x_173_7).toNatClampNeg (((8 * x) + y))) 78 (u).toNatClampNeg (x_173_7).toNatClampNeg (zz)) 80 (u).toNatClampNeg (x_173_7).toNatClampNeg ((g 63 (x).toNatClampNeg (y).toNatClampNeg))) r)) (u_80_a (g := (s3 (s3 q_173 76 (u).toNatClampNeg (x_173_7).toNatClampNeg (((8 * x) + y))) 78 (u).toNatClampNeg (x_173_7).toNatClampNeg (zz))) (tn_lt (by (try simp only [Int32.le_iff_toInt_le, Int32.lt_iff_toInt_lt, ← Int32.toInt_inj, Int32.reduceToInt] at c_2 c_5 c_7 c_8 c_9 c_10 c_18 c_20 c_21 c_22 c_23 c_24 b_1 b_4 b_6 hq_52 hr_52 hq_173 hr_173 hu hg hf h9u ⊢); omega))) ?_
                                  refine v_aload_n (pc := 289) C dX12_draft_289 2 rfl rfl ?_
                                  refine v_get (pc := 290) C (40, 0) (v := .ref (A (81, 0))) ck_40 rfl 41 (by decide) inX12 wd_1429 rfl rfl dX12_draft_290 ?_
                                  refine v_iload_n (pc := 293) C dX12_draft_293 3 rfl rfl ?_
                                  refine v_iload (pc := 294) C dX12_draft_294 1 rfl ?_
                                  refine v_iconst (v := 1) (pc := 296) C dX12_draft_296 rfl ?_
                                  refine v_iadd (pc := 297) C dX12_draft_297 ?_
                                  refine v_iast (pc := 298) C (81, 0) (x := (x_173_7 + 1)) ck_81 (by (try simp only [Int32.le_iff_toInt_le, Int32.lt_iff_toInt_lt, ← Int32.toInt_inj, vp_in_iff, Int32.reduceToInt] at c_2 c_5 c_7 c_8 c_9 c_10 c_18 c_20 c_21 c_22 c_23 c_24 b_1 b_4 b_6 hq_52 hr_52 hq_173 hr_173 hu hg hf h9u ⊢) <;> omega) dX12_draft_298 ?_
                                  refine v_h (h2 := (wm (s3 (s3 (s3 (s3 q_173 76 (u).toNatClampNeg (x_173_7).toNatClampNeg (((8 * x) + y))) 78 (u).toNatClampNeg (x_173_7).toNatClampNeg (zz)) 80 (u).toNatClampNeg (x_173_7).toNatClampNeg ((g 63 (x).toNatClampNeg (y).toNatClampNeg))) 81 (u).toNatClampNeg 0 ((x_173_7 + 1))) r)) (u_81_a) ?_
                                  refine v_aload_n (pc := 299) C dX12_draft_299 2 rfl rfl ?_
                                  refine v_get (pc := 300) C (40, 0) (v := .ref (A (81, 0))) ck_40 rfl 41 (by decide) inX12 wd_1429 rfl rfl dX12_draft_300 ?_
                                  refine v_iload_n (pc := 303) C dX12_draft_303 3 rfl rfl ?_
                                  refine v_iald (pc := 304) C (81, 0) (v := (x_173_7 + 1)) ck_81 (by (try simp only [Int32.le_iff_toInt_le, Int32.lt_iff_toInt_lt, ← Int32.toInt_inj, vp_in_iff, Int32.reduceToInt] at c_2 c_5 c_7 c_8 c_9 c_10 c_18 c_20 c_21 c_22 c_23 c_24 b_1 b_4 b_6 hq_52 hr_52 hq_173 hr_173 hu hg hf h9u ⊢) <;> omega) (s3_s) dX12_draft_304 ?_
                                  exact v_iret (pc := 305) C (by decide) (by decide) dX12_draft_305 ⟨(congrArg (fun q => some (Value.int q)) (by show _ = _; rw [eV_173, VL_X12_draft_173, if_pos c_24])), rfl, (congrArg (fun q => wm q r) (by show _ = _; rw [eS_173, SL_X12_draft_173, if_pos c_24]))⟩
                                · skip
                                  refine v_aload_n (pc := 180) C dX12_draft_180 2 rfl rfl ?_
                                  refine v_get (pc := 181) C (40, 0) (v := .ref (A (75, 0))) ck_40 rfl 38 (by decide) inX12 wd_1426 rfl rfl dX12_draft_181 ?_
                                  refine v_iload_n (pc := 184) C dX12_draft_184 3 rfl rfl ?_
                                  refine v_aald (pc := 185) C (75, 0) ck_75 rfl rfl (by (try simp only [Int32.le_iff_toInt_le, Int32.lt_iff_toInt_lt, ← Int32.toInt_inj, vp_in_iff, Int32.reduceToInt] at c_2 c_5 c_7 c_8 c_9 c_10 c_18 c_20 c_21 c_22 c_23 c_24 b_1 b_4 b_6 hq_52 hr_52 hq_173 hr_173 hu hg hf h9u ⊢) <;> omega) (76, (u).toNatClampNeg) rfl dX12_draft_185 ?_
                                  refine v_iload (pc := 186) C dX12_draft_186 0 rfl ?_
                                  refine v_aload_n (pc := 188) C dX12_draft_188 2 rfl rfl ?_
                                  refine v_get (pc := 189) C (40, 0) (v := .ref (A (75, 0))) ck_40 rfl 38 (by decide) inX12 wd_1426 rfl rfl dX12_draft_189 ?_
                                  refine v_iload_n (pc := 192) C dX12_draft_192 3 rfl rfl ?_
                                  refine v_aald (pc := 193) C (75, 0) ck_75 rfl rfl (by (try simp only [Int32.le_iff_toInt_le, Int32.lt_iff_toInt_lt, ← Int32.toInt_inj, vp_in_iff, Int32.reduceToInt] at c_2 c_5 c_7 c_8 c_9 c_10 c_18 c_20 c_21 c_22 c_23 c_24 b_1 b_4 b_6 hq_52 hr_52 hq_173 hr_173 hu hg hf h9u ⊢) <;> omega) (76, (u).toNatClampNeg) rfl dX12_draft_193 ?_
                                  refine v_iload (pc := 194) C dX12_draft_194 0 rfl ?_
                                  refine v_iconst (v := 1) (pc := 196) C dX12_draft_196 rfl ?_
                                  refine v_iadd (pc := 197) C dX12_draft_197 ?_
                                  refine v_nm (y := .int (nI (i_173 + 1))) (congrArg Value.int (nI_1 _)) ?_
                                  refine v_iald (pc := 198) C (76, (u).toNatClampNeg) (v := (q_173 76 (u).toNatClampNeg (i_173 + 1))) (ck_76 (g := q_173) (tn_lt (by (try simp only [Int32.le_iff_toInt_le, Int32.lt_iff_toInt_lt, ← Int32.toInt_inj, Int32.reduceToInt] at c_2 c_5 c_7 c_8 c_9 c_10 c_18 c_20 c_21 c_22 c_23 c_24 b_1 b_4 b_6 hq_52 hr_52 hq_173 hr_173 hu hg hf h9u ⊢); omega))) (by (try simp only [Int32.le_iff_toInt_le, Int32.lt_iff_toInt_lt, ← Int32.toInt_inj, vp_in_iff, Int32.reduceToInt] at c_2 c_5 c_7 c_8 c_9 c_10 c_18 c_20 c_21 c_22 c_23 c_24 b_1 b_4 b_6 hq_52 hr_52 hq_173 hr_173 hu hg hf h9u ⊢) <;> omega) ((congrArg (fun k => q_173 76 (u).toNatClampNeg k) (show (nI (i_173 + 1) : Int32).toNatClampNeg = (i_173 + 1) from (nI_clamp (by omega)))).trans rfl) dX12_draft_198 ?_
                                  refine v_iast (pc := 199) C (76, (u).toNatClampNeg) (x := (q_173 76 (u).toNatClampNeg (i_173 + 1))) (ck_76 (g := q_173) (tn_lt (by (try simp only [Int32.le_iff_toInt_le, Int32.lt_iff_toInt_lt, ← Int32.toInt_inj, Int32.reduceToInt] at c_2 c_5 c_7 c_8 c_9 c_10 c_18 c_20 c_21 c_22 c_23 c_24 b_1 b_4 b_6 hq_52 hr_52 hq_173 hr_173 hu hg hf h9u ⊢); omega))) (by (try simp only [Int32.le_iff_toInt_le, Int32.lt_iff_toInt_lt, ← Int32.toInt_inj, vp_in_iff, Int32.reduceToInt] at c_2 c_5 c_7 c_8 c_9 c_10 c_18 c_20 c_21 c_22 c_23 c_24 b_1 b_4 b_6 hq_52 hr_52 hq_173 hr_173 hu hg hf h9u ⊢) <;> omega) dX12_draft_199 ?_
                                  rw [show (nI i_173 : Int32).toNatClampNeg = i_173 from (nI_clamp (by omega))]
                                  refine v_h (h2 := (wm (s3 q_173 76 (u).toNatClampNeg i_173 ((q_173 76 (u).toNatClampNeg (i_173 + 1)))) r)) (u_76_a (g := q_173) (tn_lt (by (try simp only [Int32.le_iff_toInt_le, Int32.lt_iff_toInt_lt, ← Int32.toInt_inj, Int32.reduceToInt] at c_2 c_5 c_7 c_8 c_9 c_10 c_18 c_20 c_21 c_22 c_23 c_24 b_1 b_4 b_6 hq_52 hr_52 hq_173 hr_173 hu hg hf h9u ⊢); omega))) ?_
                                  refine v_aload_n (pc := 200) C dX12_draft_200 2 rfl rfl ?_
                                  refine v_get (pc := 201) C (40, 0) (v := .ref (A (77, 0))) ck_40 rfl 39 (by decide) inX12 wd_1427 rfl rfl dX12_draft_201 ?_
                                  refine v_iload_n (pc := 204) C dX12_draft_204 3 rfl rfl ?_
                                  refine v_aald (pc := 205) C (77, 0) ck_77 rfl rfl (by (try simp only [Int32.le_iff_toInt_le, Int32.lt_iff_toInt_lt, ← Int32.toInt_inj, vp_in_iff, Int32.reduceToInt] at c_2 c_5 c_7 c_8 c_9 c_10 c_18 c_20 c_21 c_22 c_23 c_24 b_1 b_4 b_6 hq_52 hr_52 hq_173 hr_173 hu hg hf h9u ⊢) <;> omega) (78, (u).toNatClampNeg) rfl dX12_draft_205 ?_
                                  refine v_iload (pc := 206) C dX12_draft_206 0 rfl ?_
                                  refine v_aload_n (pc := 208) C dX12_draft_208 2 rfl rfl ?_
                                  refine v_get (pc := 209) C (40, 0) (v := .ref (A (77, 0))) ck_40 rfl 39 (by decide) inX12 wd_1427 rfl rfl dX12_draft_209 ?_
                                  refine v_iload_n (pc := 212) C dX12_draft_212 3 rfl rfl ?_
                                  refine v_aald (pc := 213) C (77, 0) ck_77 rfl rfl (by (try simp only [Int32.le_iff_toInt_le, Int32.lt_iff_toInt_lt, ← Int32.toInt_inj, vp_in_iff, Int32.reduceToInt] at c_2 c_5 c_7 c_8 c_9 c_10 c_18 c_20 c_21 c_22 c_23 c_24 b_1 b_4 b_6 hq_52 hr_52 hq_173 hr_173 hu hg hf h9u ⊢) <;> omega) (78, (u).toNatClampNeg) rfl dX12_draft_213 ?_
                                  refine v_iload (pc := 214) C dX12_draft_214 0 rfl ?_
                                  refine v_iconst (v := 1) (pc := 216) C dX12_draft_216 rfl ?_
                                  refine v_iadd (pc := 217) C dX12_draft_217 ?_
                                  refine v_nm (y := .int (nI (i_173 + 1))) (congrArg Value.int (nI_1 _)) ?_
                                  refine v_iald (pc := 218) C (78, (u).toNatClampNeg) (v := (q_173 78 (u).toNatClampNeg (i_173 + 1))) (ck_78 (g := (s3 q_173 76 (u).toNatClampNeg i_173 ((q_173 76 (u).toNatClampNeg (i_173 + 1))))) (tn_lt (by (try simp only [Int32.le_iff_toInt_le, Int32.lt_iff_toInt_lt, ← Int32.toInt_inj, Int32.reduceToInt] at c_2 c_5 c_7 c_8 c_9 c_10 c_18 c_20 c_21 c_22 c_23 c_24 b_1 b_4 b_6 hq_52 hr_52 hq_173 hr_173 hu hg hf h9u ⊢); omega))) (by (try simp only [Int32.le_iff_toInt_le, Int32.lt_iff_toInt_lt, ← Int32.toInt_inj, vp_in_iff, Int32.reduceToInt] at c_2 c_5 c_7 c_8 c_9 c_10 c_18 c_20 c_21 c_22 c_23 c_24 b_1 b_4 b_6 hq_52 hr_52 hq_173 hr_173 hu hg hf h9u ⊢) <;> omega) ((congrArg (fun k => (s3 q_173 76 (u).toNatClampNeg i_173 ((q_173 76 (u).toNatClampNeg (i_173 + 1)))) 78 (u).toNatClampNeg k) (show (nI (i_173 + 1) : Int32).toNatClampNeg = (i_173 + 1) from (nI_clamp (by omega)))).trans rfl) dX12_draft_218 ?_
                                  refine v_iast (pc := 219) C (78, (u).toNatClampNeg) (x := (q_173 78 (u).toNatClampNeg (i_173 + 1))) (ck_78 (g := (s3 q_173 76 (u).toNatClampNeg i_173 ((q_173 76 (u).toNatClampNeg (i_173 + 1))))) (tn_lt (by (try simp only [Int32.le_iff_toInt_le, Int32.lt_iff_toInt_lt, ← Int32.toInt_inj, Int32.reduceToInt] at c_2 c_5 c_7 c_8 c_9 c_10 c_18 c_20 c_21 c_22 c_23 c_24 b_1 b_4 b_6 hq_52 hr_52 hq_173 hr_173 hu hg hf h9u ⊢); omega))) (by (try simp only [Int32.le_iff_toInt_le, Int32.lt_iff_toInt_lt, ← Int32.toInt_inj, vp_in_iff, Int32.reduceToInt] at c_2 c_5 c_7 c_8 c_9 c_10 c_18 c_20 c_21 c_22 c_23 c_24 b_1 b_4 b_6 hq_52 hr_52 hq_173 hr_173 hu hg hf h9u ⊢) <;> omega) dX12_draft_219 ?_
                                  rw [show (nI i_173 : Int32).toNatClampNeg = i_173 from (nI_clamp (by omega))]
                                  refine v_h (h2 := (wm (s3 (s3 q_173 76 (u).toNatClampNeg i_173 ((q_173 76 (u).toNatClampNeg (i_173 + 1)))) 78 (u).toNatClampNeg i_173 ((q_173 78 (u).toNatClampNeg (i_173 + 1)))) r)) (u_78_a (g := (s3 q_173 76 (u).toNatClampNeg i_173 ((q_173 76 (u).toNatClampNeg (i_173 + 1))))) (tn_lt (by (try simp only [Int32.le_iff_toInt_le, Int32.lt_iff_toInt_lt, ← Int32.toInt_inj, Int32.reduceToInt] at c_2 c_5 c_7 c_8 c_9 c_10 c_18 c_20 c_21 c_22 c_23 c_24 b_1 b_4 b_6 hq_52 hr_52 hq_173 hr_173 hu hg hf h9u ⊢); omega))) ?_
                                  refine v_aload_n (pc := 220) C dX12_draft_220 2 rfl rfl ?_
                                  refine v_get (pc := 221) C (40, 0) (v := .ref (A (79, 0))) ck_40 rfl 40 (by decide) inX12 wd_1428 rfl rfl dX12_draft_221 ?_
                                  refine v_iload_n (pc := 224) C dX12_draft_224 3 rfl rfl ?_
                                  refine v_aald (pc := 225) C (79, 0) ck_79 rfl rfl (by (try simp only [Int32.le_iff_toInt_le, Int32.lt_iff_toInt_lt, ← Int32.toInt_inj, vp_in_iff, Int32.reduceToInt] at c_2 c_5 c_7 c_8 c_9 c_10 c_18 c_20 c_21 c_22 c_23 c_24 b_1 b_4 b_6 hq_52 hr_52 hq_173 hr_173 hu hg hf h9u ⊢) <;> omega) (80, (u).toNatClampNeg) rfl dX12_draft_225 ?_
                                  refine v_iload (pc := 226) C dX12_draft_226 0 rfl ?_
                                  refine v_aload_n (pc := 228) C dX12_draft_228 2 rfl rfl ?_
                                  refine v_get (pc := 229) C (40, 0) (v := .ref (A (79, 0))) ck_40 rfl 40 (by decide) inX12 wd_1428 rfl rfl dX12_draft_229 ?_
                                  refine v_iload_n (pc := 232) C dX12_draft_232 3 rfl rfl ?_
                                  refine v_aald (pc := 233) C (79, 0) ck_79 rfl rfl (by (try simp only [Int32.le_iff_toInt_le, Int32.lt_iff_toInt_lt, ← Int32.toInt_inj, vp_in_iff, Int32.reduceToInt] at c_2 c_5 c_7 c_8 c_9 c_10 c_18 c_20 c_21 c_22 c_23 c_24 b_1 b_4 b_6 hq_52 hr_52 hq_173 hr_173 hu hg hf h9u ⊢) <;> omega) (80, (u).toNatClampNeg) rfl dX12_draft_233 ?_
                                  refine v_iload (pc := 234) C dX12_draft_234 0 rfl ?_
                                  refine v_iconst (v := 1) (pc := 236) C dX12_draft_236 rfl ?_
                                  refine v_iadd (pc := 237) C dX12_draft_237 ?_
                                  refine v_nm (y := .int (nI (i_173 + 1))) (congrArg Value.int (nI_1 _)) ?_
                                  refine v_iald (pc := 238) C (80, (u).toNatClampNeg) (v := (q_173 80 (u).toNatClampNeg (i_173 + 1))) (ck_80 (g := (s3 (s3 q_173 76 (u).toNatClampNeg i_173 ((q_173 76 (u).toNatClampNeg (i_173 + 1)))) 78 (u).toNatClampNeg i_173 ((q_173 78 (u).toNatClampNeg (i_173 + 1))))) (tn_lt (by (try simp only [Int32.le_iff_toInt_le, Int32.lt_iff_toInt_lt, ← Int32.toInt_inj, Int32.reduceToInt] at c_2 c_5 c_7 c_8 c_9 c_10 c_18 c_20 c_21 c_22 c_23 c_24 b_1 b_4 b_6 hq_52 hr_52 hq_173 hr_173 hu hg hf h9u ⊢); omega))) (by (try simp only [Int32.le_iff_toInt_le, Int32.lt_iff_toInt_lt, ← Int32.toInt_inj, vp_in_iff, Int32.reduceToInt] at c_2 c_5 c_7 c_8 c_9 c_10 c_18 c_20 c_21 c_22 c_23 c_24 b_1 b_4 b_6 hq_52 hr_52 hq_173 hr_173 hu hg hf h9u ⊢) <;> omega) ((congrArg (fun k => (s3 (s3 q_173 76 (u).toNatClampNeg i_173 ((q_173 76 (u).toNatClampNeg (i_173 + 1)))) 78 (u).toNatClampNeg i_173 ((q_173 78 (u).toNatClampNeg (i_173 + 1)))) 80 (u).toNatClampNeg k) (show (nI (i_173 + 1) : Int32).toNatClampNeg = (i_173 + 1) from (nI_clamp (by omega)))).trans rfl) dX12_draft_238 ?_
                                  refine v_iast (pc := 239) C (80, (u).toNatClampNeg) (x := (q_173 80 (u).toNatClampNeg (i_173 + 1))) (ck_80 (g := (s3 (s3 q_173 76 (u).toNatClampNeg i_173 ((q_173 76 (u).toNatClampNeg (i_173 + 1)))) 78 (u).toNatClampNeg i_173 ((q_173 78 (u).toNatClampNeg (i_173 + 1))))) (tn_lt (by (try simp only [Int32.le_iff_toInt_le, Int32.lt_iff_toInt_lt, ← Int32.toInt_inj, Int32.reduceToInt] at c_2 c_5 c_7 c_8 c_9 c_10 c_18 c_20 c_21 c_22 c_23 c_24 b_1 b_4 b_6 hq_52 hr_52 hq_173 hr_173 hu hg hf h9u ⊢); omega))) (by (try simp only [Int32.le_iff_toInt_le, Int32.lt_iff_toInt_lt, ← Int32.toInt_inj, vp_in_iff, Int32.reduceToInt] at c_2 c_5 c_7 c_8 c_9 c_10 c_18 c_20 c_21 c_22 c_23 c_24 b_1 b_4 b_6 hq_52 hr_52 hq_173 hr_173 hu hg hf h9u ⊢) <;> omega) dX12_draft_239 ?_
                                  rw [show (nI i_173 : Int32).toNatClampNeg = i_173 from (nI_clamp (by omega))]
                                  refine v_h (h2 := (wm (s3 (s3 (s3 q_173 76 (u).toNatClampNeg i_173 ((q_173 76 (u).toNatClampNeg (i_173 + 1)))) 78 (u).toNatClampNeg i_173 ((q_173 78 (u).toNatClampNeg (i_173 + 1)))) 80 (u).toNatClampNeg i_173 ((q_173 80 (u).toNatClampNeg (i_173 + 1)))) r)) (u_80_a (g := (s3 (s3 q_173 76 (u).toNatClampNeg i_173 ((q_173 76 (u).toNatClampNeg (i_173 + 1)))) 78 (u).toNatClampNeg i_173 ((q_173 78 (u).toNatClampNeg (i_173 + 1))))) (tn_lt (by (try simp only [Int32.le_iff_toInt_le, Int32.lt_iff_toInt_lt, ← Int32.toInt_inj, Int32.reduceToInt] at c_2 c_5 c_7 c_8 c_9 c_10 c_18 c_20 c_21 c_22 c_23 c_24 b_1 b_4 b_6 hq_52 hr_52 hq_173 hr_173 hu hg hf h9u ⊢); omega))) ?_
                                  refine v_iinc (v := nI (i_173 + 1)) (lv2 := [(8, .int (nI (i_173 + 1))), (7, .int (x_173_7)), (0, .ref (A (40, 0))), (1, .int (u)), (2, .int (x)), (3, .int (y)), (4, .int (zz))]) (pc := 240) C dX12_draft_240 0 rfl (nI_1 _) (by decide) rfl ?_
                                  refine v_goto (tgt := 173) (pc := 243) C dX12_draft_243 (by decide) ?_
                                  refine v_lv (lv2 := [(8, .int (nI (i_173 + 1))), (7, .int (x_173_7)), (0, .ref (A (40, 0))), (1, .int (u)), (2, .int (x)), (3, .int (y)), (4, .int (zz))]) [0, 1, 2, 3, 4, 5, 6] rfl ?_
                                  exact ih (i_173 + 1) (x_173_7) (s3 (s3 (s3 q_173 76 (u).toNatClampNeg i_173 ((q_173 76 (u).toNatClampNeg (i_173 + 1)))) 78 (u).toNatClampNeg i_173 ((q_173 78 (u).toNatClampNeg (i_173 + 1)))) 80 (u).toNatClampNeg i_173 ((q_173 80 (u).toNatClampNeg (i_173 + 1)))) (by (try simp only [Int32.le_iff_toInt_le, Int32.lt_iff_toInt_lt, ← Int32.toInt_inj, vp_in_iff, Int32.reduceToInt] at c_2 c_5 c_7 c_8 c_9 c_10 c_18 c_20 c_21 c_22 c_23 c_24 b_1 b_4 b_6 hq_52 hr_52 hq_173 hr_173 hu hg hf h9u ⊢) <;> omega) (by omega) (fun c i j h1 h76 h78 h80 => (s3_k h80).trans ((s3_k h78).trans ((s3_k h76).trans (hF_173 c i j h1 h76 h78 h80)))) hz_173 (by rw [eV_173, VL_X12_draft_173, if_neg c_24]) (by rw [eS_173, SL_X12_draft_173, if_neg c_24])
                            refine v_lv (lv2 := [(8, .int (x_52_5)), (7, .int (x_52_5)), (0, .ref (A (40, 0))), (1, .int (u)), (2, .int (x)), (3, .int (y)), (4, .int (zz))]) [0, 1, 4, 5, 6, 7, 8] rfl ?_
                            refine v_lve (lv2 := [(8, .int (nI (x_52_5).toNatClampNeg)), (7, .int (x_52_5)), (0, .ref (A (40, 0))), (1, .int (u)), (2, .int (x)), (3, .int (y)), (4, .int (zz))]) (by rw [nI_tn (show ¬ x_52_5 < 0 from by rw [Int32.lt_iff_toInt_lt, show (0 : Int32).toInt = 0 from by decide]; omega)]) ?_
                            exact L_173 (10 + 1) (x_52_5).toNatClampNeg (x_52_5) (S_X12_isWrong q_52 (0)) (tn_le (by omega)) (by omega) (fun c i j h1 h76 h78 h80 => (F_X12_isWrong h1).trans (hF_52 c i j h1)) (by (try simp only [Int32.le_iff_toInt_le, Int32.lt_iff_toInt_lt, ← Int32.toInt_inj, Int32.reduceToInt] at c_2 c_5 c_7 c_8 c_9 c_10 c_18 c_20 c_21 c_22 c_23 b_1 b_4 b_6 hq_52 hr_52 ⊢); omega) (by rw [eV_52, VL_X12_draft_52, if_pos c_9, if_pos c_10, if_neg c_18, if_neg c_21]) (by rw [eS_52, SL_X12_draft_52, if_pos c_9, if_pos c_10, if_neg c_18, if_neg c_21])
                        · skip
                          exact absurd c_22 (fun q9 => q9 ((show (0 : Int32) = 0 from rfl)))
                      · skip
                        refine v_iconst (v := 3) (pc := 136) C dX12_draft_136 rfl ?_
                        refine v_goto (tgt := 141) (pc := 137) C dX12_draft_137 (by decide) ?_
                        refine v_callV (pc := 141) C (40, 0) ck_40 rfl (c_X12_isWrong hG (g := q_52) (3) ) 1 wd_1531 wd_68 wd_1528 wd_1530 wd_35 (by decide +kernel) (by decide) (by decide) rfl ([]) rfl (Nat.le_of_ble_eq_true rfl) (by decide) dX12_draft_141 (fun _ _ _ q => q.elim) (fun v9 A9 h9 hR9 => ?_)
                        obtain ⟨rfl, hA9, rfl⟩ := hR9
                        obtain rfl := hA9.symm
                        refine v_st (k2 := 0) (n2 := 0) (st2 := [.int ((V_X12_isWrong q_52 (3)))]) rfl rfl rfl ?_
                        refine v_if_eq (pc := 144) (tgt := 149) C dX12_draft_144 (by decide) (fun c_25 => ?_) (fun c_25 => ?_)
                        · skip
                          exact absurd c_25 (fun q9 => ((show ¬ (1 : Int32) = 0 from by decide)) q9)
                        · skip
                          refine v_iconst (v := 0) (pc := 147) C dX12_draft_147 rfl ?_
                          exact v_iret (pc := 148) C (by decide) (by decide) dX12_draft_148 ⟨(congrArg (fun q => some (Value.int q)) (by show _ = _; rw [eV_52, VL_X12_draft_52, if_pos c_9, if_pos c_10, if_neg c_18, if_pos c_21])), rfl, (congrArg (fun q => wm q r) (by show _ = _; rw [eS_52, SL_X12_draft_52, if_pos c_9, if_pos c_10, if_neg c_18, if_pos c_21]))⟩
              · skip
                refine v_aload_n (pc := 63) C dX12_draft_63 2 rfl rfl ?_
                refine v_get (pc := 64) C (40, 0) (v := .ref (A (75, 0))) ck_40 rfl 38 (by decide) inX12 wd_1426 rfl rfl dX12_draft_64 ?_
                refine v_iload_n (pc := 67) C dX12_draft_67 3 rfl rfl ?_
                refine v_aald (pc := 68) C (75, 0) ck_75 rfl rfl (by (try simp only [Int32.le_iff_toInt_le, Int32.lt_iff_toInt_lt, ← Int32.toInt_inj, vp_in_iff, Int32.reduceToInt] at c_2 c_5 c_7 c_8 c_9 b_1 b_4 b_6 hq_52 hr_52 hu hg hf h9u ⊢) <;> omega) (76, (u).toNatClampNeg) rfl dX12_draft_68 ?_
                refine v_iload (pc := 69) C dX12_draft_69 0 rfl ?_
                refine v_iald (pc := 71) C (76, (u).toNatClampNeg) (v := (g 76 (u).toNatClampNeg i_52)) (ck_76 (g := q_52) (tn_lt (by (try simp only [Int32.le_iff_toInt_le, Int32.lt_iff_toInt_lt, ← Int32.toInt_inj, Int32.reduceToInt] at c_2 c_5 c_7 c_8 c_9 b_1 b_4 b_6 hq_52 hr_52 hu hg hf h9u ⊢); omega))) (by (try simp only [Int32.le_iff_toInt_le, Int32.lt_iff_toInt_lt, ← Int32.toInt_inj, vp_in_iff, Int32.reduceToInt] at c_2 c_5 c_7 c_8 c_9 b_1 b_4 b_6 hq_52 hr_52 hu hg hf h9u ⊢) <;> omega) ((congrArg (fun k => q_52 76 (u).toNatClampNeg k) (show (nI i_52 : Int32).toNatClampNeg = i_52 from (nI_clamp (by omega)))).trans (hF_52 _ _ _ (by decide))) dX12_draft_71 ?_
                refine v_bipush (v := 8) (pc := 72) C dX12_draft_72 (by decide) ?_
                refine v_iload_n (pc := 74) C dX12_draft_74 4 rfl rfl ?_
                refine v_imul (pc := 75) C dX12_draft_75 ?_
                refine v_iload_n (pc := 76) C dX12_draft_76 5 rfl rfl ?_
                refine v_iadd (pc := 77) C dX12_draft_77 ?_
                refine v_icmp_ne (pc := 78) (tgt := 86) C dX12_draft_78 (by decide) (fun c_26 => ?_) (fun c_26 => ?_)
                · skip
                  refine v_iload (pc := 86) C dX12_draft_86 1 rfl ?_
                  refine v_istore (lv2 := [(5, .int (x_52_5)), (6, .int (nI i_52)), (0, .ref (A (40, 0))), (1, .int (u)), (2, .int (x)), (3, .int (y)), (4, .int (zz))]) (pc := 88) C dX12_draft_88 (by decide) rfl ?_
                  refine v_iinc (v := nI (i_52 + 1)) (lv2 := [(6, .int (nI (i_52 + 1))), (5, .int (x_52_5)), (0, .ref (A (40, 0))), (1, .int (u)), (2, .int (x)), (3, .int (y)), (4, .int (zz))]) (pc := 90) C dX12_draft_90 1 rfl (nI_1 _) (by decide) rfl ?_
                  refine v_goto (tgt := 52) (pc := 93) C dX12_draft_93 (by decide) ?_
                  refine v_lv (lv2 := [(6, .int (nI (i_52 + 1))), (5, .int (x_52_5)), (0, .ref (A (40, 0))), (1, .int (u)), (2, .int (x)), (3, .int (y)), (4, .int (zz))]) [0, 1, 2, 3, 4, 5, 6] rfl ?_
                  exact ih (i_52 + 1) (x_52_5) q_52 (by (try simp only [Int32.le_iff_toInt_le, Int32.lt_iff_toInt_lt, ← Int32.toInt_inj, vp_in_iff, Int32.reduceToInt] at c_2 c_5 c_7 c_8 c_9 c_26 b_1 b_4 b_6 hq_52 hr_52 hu hg hf h9u ⊢) <;> omega) (by omega) (fun c i j h1 => hF_52 c i j h1) hz_52 (by rw [eV_52, VL_X12_draft_52, if_neg c_9, if_neg c_26]) (by rw [eS_52, SL_X12_draft_52, if_neg c_9, if_neg c_26])
                · skip
                  refine v_iload (pc := 81) C dX12_draft_81 0 rfl ?_
                  refine v_goto (tgt := 88) (pc := 83) C dX12_draft_83 (by decide) ?_
                  refine v_istore (lv2 := [(5, .int (nI i_52)), (6, .int (nI i_52)), (0, .ref (A (40, 0))), (1, .int (u)), (2, .int (x)), (3, .int (y)), (4, .int (zz))]) (pc := 88) C dX12_draft_88 (by decide) rfl ?_
                  refine v_iinc (v := nI (i_52 + 1)) (lv2 := [(6, .int (nI (i_52 + 1))), (5, .int (nI i_52)), (0, .ref (A (40, 0))), (1, .int (u)), (2, .int (x)), (3, .int (y)), (4, .int (zz))]) (pc := 90) C dX12_draft_90 1 rfl (nI_1 _) (by decide) rfl ?_
                  refine v_goto (tgt := 52) (pc := 93) C dX12_draft_93 (by decide) ?_
                  refine v_lv (lv2 := [(6, .int (nI (i_52 + 1))), (5, .int (nI i_52)), (0, .ref (A (40, 0))), (1, .int (u)), (2, .int (x)), (3, .int (y)), (4, .int (zz))]) [0, 1, 2, 3, 4, 5, 6] rfl ?_
                  exact ih (i_52 + 1) (nI i_52) q_52 (by (try simp only [Int32.le_iff_toInt_le, Int32.lt_iff_toInt_lt, ← Int32.toInt_inj, vp_in_iff, Int32.reduceToInt] at c_2 c_5 c_7 c_8 c_9 c_26 b_1 b_4 b_6 hq_52 hr_52 hu hg hf h9u ⊢) <;> omega) (by omega) (fun c i j h1 => hF_52 c i j h1) (by (try simp only [Int32.le_iff_toInt_le, Int32.lt_iff_toInt_lt, ← Int32.toInt_inj, Int32.reduceToInt] at c_2 c_5 c_7 c_8 c_9 c_26 b_1 b_4 b_6 hq_52 hr_52 ⊢); omega) (by rw [eV_52, VL_X12_draft_52, if_neg c_9, if_pos c_26]) (by rw [eS_52, SL_X12_draft_52, if_neg c_9, if_pos c_26])
          exact L_52 (10 + 1) 0 ((g 81 (u).toNatClampNeg 0)) (S_X12_isWrong g (0)) (by omega) (by omega) (fun c i j h1 => F_X12_isWrong h1) ⟨h9u.1, Int.le_refl _⟩ (by rw [V_X12_draft, if_neg c_2, if_neg c_5, if_neg c_7]) (by rw [S_X12_draft, if_neg c_2, if_neg c_5, if_neg c_7])
        · skip
          exact absurd c_8 (fun q9 => q9 ((show (0 : Int32) = 0 from rfl)))
      · skip
        refine v_iconst (v := 2) (pc := 28) C dX12_draft_28 rfl ?_
        refine v_goto (tgt := 33) (pc := 29) C dX12_draft_29 (by decide) ?_
        refine v_callV (pc := 33) C (40, 0) ck_40 rfl (c_X12_isWrong hG (g := g) (2) ) 1 wd_1531 wd_68 wd_1528 wd_1530 wd_35 (by decide +kernel) (by decide) (by decide) rfl ([]) rfl (Nat.le_of_ble_eq_true rfl) (by decide) dX12_draft_33 (fun _ _ _ q => q.elim) (fun v9 A9 h9 hR9 => ?_)
        obtain ⟨rfl, hA9, rfl⟩ := hR9
        obtain rfl := hA9.symm
        refine v_st (k2 := 0) (n2 := 0) (st2 := [.int ((V_X12_isWrong g (2)))]) rfl rfl rfl ?_
        refine v_if_eq (pc := 36) (tgt := 41) C dX12_draft_36 (by decide) (fun c_27 => ?_) (fun c_27 => ?_)
        · skip
          exact absurd c_27 (fun q9 => ((show ¬ (1 : Int32) = 0 from by decide)) q9)
        · skip
          refine v_iconst (v := 0) (pc := 39) C dX12_draft_39 rfl ?_
          exact v_iret (pc := 40) C (by decide) (by decide) dX12_draft_40 ⟨(congrArg (fun q => some (Value.int q)) (by show _ = _; rw [V_X12_draft, if_neg c_2, if_neg c_5, if_pos c_7])), rfl, (congrArg (fun q => wm q r) (by show _ = _; rw [S_X12_draft, if_neg c_2, if_neg c_5, if_pos c_7]))⟩
    · skip
      refine v_iconst (v := 1) (pc := 17) C dX12_draft_17 rfl ?_
      refine v_goto (tgt := 33) (pc := 18) C dX12_draft_18 (by decide) ?_
      refine v_callV (pc := 33) C (40, 0) ck_40 rfl (c_X12_isWrong hG (g := g) (1) ) 1 wd_1531 wd_68 wd_1528 wd_1530 wd_35 (by decide +kernel) (by decide) (by decide) rfl ([]) rfl (Nat.le_of_ble_eq_true rfl) (by decide) dX12_draft_33 (fun _ _ _ q => q.elim) (fun v9 A9 h9 hR9 => ?_)
      obtain ⟨rfl, hA9, rfl⟩ := hR9
      obtain rfl := hA9.symm
      refine v_st (k2 := 0) (n2 := 0) (st2 := [.int ((V_X12_isWrong g (1)))]) rfl rfl rfl ?_
      refine v_if_eq (pc := 36) (tgt := 41) C dX12_draft_36 (by decide) (fun c_28 => ?_) (fun c_28 => ?_)
      · skip
        exact absurd c_28 (fun q9 => ((show ¬ (1 : Int32) = 0 from by decide)) q9)
      · skip
        refine v_iconst (v := 0) (pc := 39) C dX12_draft_39 rfl ?_
        exact v_iret (pc := 40) C (by decide) (by decide) dX12_draft_40 ⟨(congrArg (fun q => some (Value.int q)) (by show _ = _; rw [V_X12_draft, if_neg c_2, if_pos c_5])), rfl, (congrArg (fun q => wm q r) (by show _ = _; rw [S_X12_draft, if_neg c_2, if_pos c_5]))⟩
