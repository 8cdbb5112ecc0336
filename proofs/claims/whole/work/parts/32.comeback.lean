
/-- drafts are of parts of files that can be there; a user has at most 10 -/
def vM8 (g : vS) : Prop := ∀ u k : Nat, 0 ≤ (g 76 u k).toInt ∧ (g 76 u k).toInt < 160
def vM9 (g : vS) : Prop := ∀ u : Nat, 0 ≤ (g 81 u 0).toInt ∧ (g 81 u 0).toInt ≤ 10
theorem vM8_k {g G : vS} (h : ∀ i j, G 76 i j = g 76 i j) (q : vM8 g) : vM8 G := fun u k => by rw [h]; exact q u k
theorem vM9_k {g G : vS} (h : ∀ i j, G 81 i j = g 81 i j) (q : vM9 g) : vM9 G := fun u => by rw [h]; exact q u
theorem i32_div8 {x : Int32} (h0 : 0 ≤ x.toInt) (h : x.toInt < 160) : (x / 8).toInt = x.toInt / 8 := by
  rw [Int32.toInt_div, show (8 : Int32).toInt = 8 from by decide, Int.tdiv_eq_ediv_of_nonneg h0]
  apply Int.bmod_eq_of_le <;> omega
theorem i32_rem8 {x : Int32} (h0 : 0 ≤ x.toInt) (h : x.toInt < 160) : (x - x / 8 * 8).toInt = x.toInt - 8 * (x.toInt / 8) := by
  have e := i32_div8 h0 h
  have e2 : (x / 8 * 8).toInt = 8 * (x.toInt / 8) := by
    rw [Int32.toInt_mul, e, show (8 : Int32).toInt = 8 from by decide, Int.mul_comm]
    apply Int.bmod_eq_of_le <;> omega
  rw [i32_sub h0 (by omega), e2]
theorem puts_11 {g : vS} {x y z : Int32} : S_X12_puts g x y z 11 0 0 = g 11 0 0 + 1 := by
  unfold S_X12_puts
  split
  · unfold S_X12_adds
    rw [s3_s, s3_k (by decide), F_X12_lays (by decide) (by decide) (by decide), s3_k (by decide)]
  · unfold S_X12_adds
    rw [s3_s, s3_k (by decide), F_X12_lays (by decide) (by decide) (by decide), s3_k (by decide), F_X12_turns (by decide) (by decide) (by decide)]

def VL_X12_comeBack_51 (g : vS) (u : Int32) : Nat → Nat → Int32 → vS → Int32
  | 0, _, _, _ => 0
  | n + 1, i_51, x_51_2, q_51 => (if (g 81 (u).toNatClampNeg 0) ≤ nI i_51 then x_51_2 else (if (V_X12_cannotWrite q_51 (u) (((g 76 (u).toNatClampNeg i_51) / 8)) (((g 76 (u).toNatClampNeg i_51) - (g 76 (u).toNatClampNeg i_51) / 8 * 8))) = 0 then (if (q_51 63 (((g 76 (u).toNatClampNeg i_51) / 8)).toNatClampNeg (((g 76 (u).toNatClampNeg i_51) - (g 76 (u).toNatClampNeg i_51) / 8 * 8)).toNatClampNeg) = (g 80 (u).toNatClampNeg i_51) then (VL_X12_comeBack_51 g u n (i_51 + 1) ((x_51_2 + 1)) (S_X12_puts q_51 (((g 76 (u).toNatClampNeg i_51) / 8)) (((g 76 (u).toNatClampNeg i_51) - (g 76 (u).toNatClampNeg i_51) / 8 * 8)) ((g 78 (u).toNatClampNeg i_51)))) else (VL_X12_comeBack_51 g u n (i_51 + 1) (x_51_2) (s3 (s3 q_51 82 ((q_51 12 0 0)).toNatClampNeg 0 ((g 76 (u).toNatClampNeg i_51))) 12 0 0 (((q_51 12 0 0) + 1))))) else (VL_X12_comeBack_51 g u n (i_51 + 1) (x_51_2) (s3 (s3 q_51 82 ((q_51 12 0 0)).toNatClampNeg 0 ((g 76 (u).toNatClampNeg i_51))) 12 0 0 (((q_51 12 0 0) + 1))))))
def SL_X12_comeBack_51 (g : vS) (u : Int32) : Nat → Nat → Int32 → vS → vS
  | 0, _, _, q9 => q9
  | n + 1, i_51, x_51_2, q_51 => (if (g 81 (u).toNatClampNeg 0) ≤ nI i_51 then (s3 q_51 81 (u).toNatClampNeg 0 (0)) else (if (V_X12_cannotWrite q_51 (u) (((g 76 (u).toNatClampNeg i_51) / 8)) (((g 76 (u).toNatClampNeg i_51) - (g 76 (u).toNatClampNeg i_51) / 8 * 8))) = 0 then (if (q_51 63 (((g 76 (u).toNatClampNeg i_51) / 8)).toNatClampNeg (((g 76 (u).toNatClampNeg i_51) - (g 76 (u).toNatClampNeg i_51) / 8 * 8)).toNatClampNeg) = (g 80 (u).toNatClampNeg i_51) then (SL_X12_comeBack_51 g u n (i_51 + 1) ((x_51_2 + 1)) (S_X12_puts q_51 (((g 76 (u).toNatClampNeg i_51) / 8)) (((g 76 (u).toNatClampNeg i_51) - (g 76 (u).toNatClampNeg i_51) / 8 * 8)) ((g 78 (u).toNatClampNeg i_51)))) else (SL_X12_comeBack_51 g u n (i_51 + 1) (x_51_2) (s3 (s3 q_51 82 ((q_51 12 0 0)).toNatClampNeg 0 ((g 76 (u).toNatClampNeg i_51))) 12 0 0 (((q_51 12 0 0) + 1))))) else (SL_X12_comeBack_51 g u n (i_51 + 1) (x_51_2) (s3 (s3 q_51 82 ((q_51 12 0 0)).toNatClampNeg 0 ((g 76 (u).toNatClampNeg i_51))) 12 0 0 (((q_51 12 0 0) + 1))))))
def V_X12_comeBack (g : vS) (u : Int32) : Int32 := (if (V_X12_isUser g (u)) = 0 then 0 else (if (g 47 (u).toNatClampNeg 0) = 0 then 0 else (VL_X12_comeBack_51 g u (10 + 1) 0 (0) (s3 (s3 (S_X12_isWrong g (0)) 47 (u).toNatClampNeg 0 (0)) 12 0 0 (0)))))
def S_X12_comeBack (g : vS) (u : Int32) : vS := (if (V_X12_isUser g (u)) = 0 then (S_X12_isWrong g (1)) else (if (g 47 (u).toNatClampNeg 0) = 0 then (S_X12_isWrong g (2)) else (SL_X12_comeBack_51 g u (10 + 1) 0 (0) (s3 (s3 (S_X12_isWrong g (0)) 47 (u).toNatClampNeg 0 (0)) 12 0 0 (0)))))
theorem FL_X12_comeBack_51 {g : vS} {u : Int32} {c i j : Nat} (h1 : c ≠ 1) (h11 : c ≠ 11) (h12 : c ≠ 12) (h13 : c ≠ 13) (h47 : c ≠ 47) (h56 : c ≠ 56) (h57 : c ≠ 57) (h59 : c ≠ 59) (h61 : c ≠ 61) (h63 : c ≠ 63) (h65 : c ≠ 65) (h67 : c ≠ 67) (h73 : c ≠ 73) (h81 : c ≠ 81) (h82 : c ≠ 82) : ∀ (n : Nat) (a0 : Nat) (a1 : Int32) (a2 : vS), a2 c i j = g c i j → SL_X12_comeBack_51 g u n a0 a1 a2 c i j = g c i j := by
  intro n
  induction n with
  | zero => intro a0 a1 a2 hq9; exact hq9
  | succ n ih =>
    intro a0 a1 a2 hq9
    simp only [SL_X12_comeBack_51]
    (repeat' split) <;> first | rfl | exact hq9 | (apply ih; first | exact hq9 | rfl | trivial | ((simp only [s3_k h1, s3_k h11, s3_k h12, s3_k h13, s3_k h47, s3_k h56, s3_k h57, s3_k h59, s3_k h61, s3_k h63, s3_k h65, s3_k h67, s3_k h73, s3_k h81, s3_k h82, F_X12_isWrong h1, F_X12_puts h11 h13 h56 h57 h59 h61 h63 h65 h67 h73]) <;> first | done | exact hq9 | rfl)) | ((simp only [s3_k h1, s3_k h11, s3_k h12, s3_k h13, s3_k h47, s3_k h56, s3_k h57, s3_k h59, s3_k h61, s3_k h63, s3_k h65, s3_k h67, s3_k h73, s3_k h81, s3_k h82, F_X12_isWrong h1, F_X12_puts h11 h13 h56 h57 h59 h61 h63 h65 h67 h73]) <;> first | done | exact hq9 | rfl)
theorem F_X12_comeBack {g : vS} {u : Int32} {c i j : Nat} (h1 : c ≠ 1) (h11 : c ≠ 11) (h12 : c ≠ 12) (h13 : c ≠ 13) (h47 : c ≠ 47) (h56 : c ≠ 56) (h57 : c ≠ 57) (h59 : c ≠ 59) (h61 : c ≠ 61) (h63 : c ≠ 63) (h65 : c ≠ 65) (h67 : c ≠ 67) (h73 : c ≠ 73) (h81 : c ≠ 81) (h82 : c ≠ 82) : S_X12_comeBack g u c i j = g c i j := by
  unfold S_X12_comeBack
  (repeat' split) <;> first | rfl | (apply FL_X12_comeBack_51 h1 h11 h12 h13 h47 h56 h57 h59 h61 h63 h65 h67 h73 h81 h82; first | rfl | trivial | ((simp only [s3_k h1, s3_k h11, s3_k h12, s3_k h13, s3_k h47, s3_k h56, s3_k h57, s3_k h59, s3_k h61, s3_k h63, s3_k h65, s3_k h67, s3_k h73, s3_k h81, s3_k h82, F_X12_isWrong h1, F_X12_puts h11 h13 h56 h57 h59 h61 h63 h65 h67 h73]) <;> first | done | rfl)) | ((simp only [s3_k h1, s3_k h11, s3_k h12, s3_k h13, s3_k h47, s3_k h56, s3_k h57, s3_k h59, s3_k h61, s3_k h63, s3_k h65, s3_k h67, s3_k h73, s3_k h81, s3_k h82, F_X12_isWrong h1, F_X12_puts h11 h13 h56 h57 h59 h61 h63 h65 h67 h73]) <;> first | done | rfl)

theorem mono_cb {B : Nat} {g : vS} {u : Int32} (h8 : vM8 g) (h9 : vM9 g) (hB : B ≤ 19000) : ∀ (n i : Nat) (x : Int32) (q : vS), i ≤ 10 → vM1 q → vM2 q → vM3 q → vM7 (B + i) q → vPb q ≤ vPb (SL_X12_comeBack_51 g u n i x q) := by
  intro n
  induction n with
  | zero => intro i x q hi h1 h2 h3 h7; exact Nat.le_refl _
  | succ n ih =>
    intro i x q hi h1 h2 h3 h7
    have r := h8 (u).toNatClampNeg i
    have r2 := i32_div8 r.1 r.2
    have r3 : ((g 76 (u).toNatClampNeg i) / 8).toNatClampNeg < 20 := tn_lt (by omega)
    simp only [SL_X12_comeBack_51]
    by_cases c : (g 81 (u).toNatClampNeg 0) ≤ nI i
    · rw [if_pos c]
      exact Nat.le_of_eq (vPb_k (fun i j => s3_k (by decide))).symm
    · rw [if_neg c]
      rw [Int32.le_iff_toInt_le, nI_toInt (by omega)] at c
      have d := h9 (u).toNatClampNeg
      have K : ∀ (x' : Int32) (a b : Int32) (k : Nat), vPb q ≤ vPb (SL_X12_comeBack_51 g u n (i + 1) x' (s3 (s3 q 82 k 0 a) 12 0 0 b)) := fun x' a b k => by
        refine Nat.le_trans (Nat.le_of_eq (vPb_k (fun i j => (s3_k (by decide)).trans (s3_k (by decide)))).symm) (ih (i + 1) x' _ (by omega) (vM1_k (fun i j => (s3_k (by decide)).trans (s3_k (by decide))) h1) (vM2_k (fun i j => (s3_k (by decide)).trans (s3_k (by decide))) (fun i j => (s3_k (by decide)).trans (s3_k (by decide))) h2) (vM3_k (fun i j => (s3_k (by decide)).trans (s3_k (by decide))) (fun i j => (s3_k (by decide)).trans (s3_k (by decide))) h3) (vM7_le (by omega) (vM7_k (fun i j => (s3_k (by decide)).trans (s3_k (by decide))) (fun i j => (s3_k (by decide)).trans (s3_k (by decide))) h7)))
      have K2 : ∀ (x' y z : Int32), vPb q ≤ vPb (SL_X12_comeBack_51 g u n (i + 1) x' (S_X12_puts q ((g 76 (u).toNatClampNeg i) / 8) y z)) := fun x' y z => by
        have m := M_puts (x := (g 76 (u).toNatClampNeg i) / 8) (y := y) (z := z) h1 h2 h3 h7 (by omega)
        exact Nat.le_trans (vPb_puts r3 h7 (by omega)) (ih (i + 1) x' _ (by omega) m.1 m.2.1 m.2.2.1 m.2.2.2)
      split
      · split
        · exact K2 _ _ _
        · exact K _ _ _ _
      · exact K _ _ _ _

set_option maxHeartbeats 4000000 in
set_option maxRecDepth 100000 in
theorem c_X12_comeBack {G : vG} (hG : G.1.stackTraces = false) {A : vN → Nat} {g : vS} {r : vH} (u : Int32) (hu0 : 0 ≤ (g 2 0 0).toInt) (hu : (g 2 0 0).toInt ≤ 6) (hg0 : 0 ≤ (g 3 0 0).toInt) (hg : (g 3 0 0).toInt ≤ 5) (hf0 : 0 ≤ (g 4 0 0).toInt) (hf : (g 4 0 0).toInt ≤ 20) (h1 : vM1 g) (h2 : vM2 g) (h3 : vM3 g) (B : Nat) (h7 : vM7 B g) (hB : B ≤ 19000) (hr : vNq r) (hl0 : 0 ≤ (g 11 0 0).toInt) (hl : (g 11 0 0).toInt ≤ 300) (h8 : vM8 g) (h9 : vM9 g) : vCt G yX12_comeBack cX12_comeBack 6 (some .int) 5 [.ref (A (40, 0)), .int (u)] A (wm g r) (fun v A2 h2 => v = some (.int (V_X12_comeBack g u)) ∧ vAs 59 59 A2 A ∧ h2 = wm (S_X12_comeBack g u) r) (vNoX) (vPb (S_X12_comeBack g u) - vPb g) (2 * (vPb (S_X12_comeBack g u) - vPb g)) := by
  refine v_of hG (by decide +kernel) (Nat.le_of_ble_eq_true rfl) (lv := [(0, .ref (A (40, 0))), (1, .int (u))]) rfl (fun X C hnx => ?_)
  have C : vC G X cX12_comeBack 6 RX12 (some .int) "comeBack" 5 (vPb (S_X12_comeBack g u) - vPb g) (2 * (vPb (S_X12_comeBack g u) - vPb g)) := C
  refine v_aload_n (pc := 0) C dX12_comeBack_0 0 rfl rfl ?_
  refine v_aload_n (pc := 1) C dX12_comeBack_1 0 rfl rfl ?_
  refine v_iload_n (pc := 2) C dX12_comeBack_2 1 rfl rfl ?_
  refine v_callV (pc := 3) C (40, 0) ck_40 rfl (c_X12_isUser hG (g := g) (u) ) 1 wd_1539 wd_68 wd_1536 wd_1538 wd_36 (by decide +kernel) (by decide) (by decide) rfl ([.ref (A (40, 0))]) rfl (Nat.le_of_ble_eq_true rfl) ⟨Nat.zero_le _, Nat.zero_le _⟩ dX12_comeBack_3 (fun _ _ _ q => q.elim) (fun v9 A9 h9 hR9 => ?_)
  obtain ⟨rfl, hA9, rfl⟩ := hR9
  obtain rfl := hA9.symm
  refine v_st (k2 := 0) (n2 := 0) (st2 := [.int ((V_X12_isUser g (u))), .ref (A (40, 0))]) rfl rfl rfl ?_
  have b_1 := ok_isUser (g := g) (x := u) hu0
  refine v_if_ne (pc := 6) (tgt := 13) C dX12_comeBack_6 (by decide) (fun c_2 => ?_) (fun c_2 => ?_)
  · skip
    refine v_aload_n (pc := 13) C dX12_comeBack_13 0 rfl rfl ?_
    refine v_get (pc := 14) C (40, 0) (v := .ref (A (47, 0))) ck_40 rfl 7 (by decide) inX12 wd_1395 rfl rfl dX12_comeBack_14 ?_
    refine v_iload_n (pc := 17) C dX12_comeBack_17 1 rfl rfl ?_
    refine v_zald (pc := 18) C (47, 0) (v := (g 47 (u).toNatClampNeg 0)) ck_47 (by (try simp only [Int32.le_iff_toInt_le, Int32.lt_iff_toInt_lt, ← Int32.toInt_inj, vp_in_iff, Int32.reduceToInt] at c_2 b_1 hu hg hf hl0 hl ⊢) <;> omega) rfl dX12_comeBack_18 ?_
    refine v_if_eq (pc := 19) (tgt := 26) C dX12_comeBack_19 (by decide) (fun c_3 => ?_) (fun c_3 => ?_)
    · skip
      refine v_iconst (v := 2) (pc := 26) C dX12_comeBack_26 rfl ?_
      refine v_callV (pc := 27) C (40, 0) ck_40 rfl (c_X12_isWrong hG (g := g) (2) ) 1 wd_1531 wd_68 wd_1528 wd_1530 wd_35 (by decide +kernel) (by decide) (by decide) rfl ([]) rfl (Nat.le_of_ble_eq_true rfl) ⟨Nat.zero_le _, Nat.zero_le _⟩ dX12_comeBack_27 (fun _ _ _ q => q.elim) (fun v9 A9 h9 hR9 => ?_)
      obtain ⟨rfl, hA9, rfl⟩ := hR9
      obtain rfl := hA9.symm
      refine v_st (k2 := 0) (n2 := 0) (st2 := [.int ((V_X12_isWrong g (2)))]) rfl rfl rfl ?_
      refine v_if_eq (pc := 30) (tgt := 35) C dX12_comeBack_30 (by decide) (fun c_4 => ?_) (fun c_4 => ?_)
      · skip
        exact absurd c_4 (fun q9 => ((show ¬ (1 : Int32) = 0 from by decide)) q9)
      · skip
        refine v_iconst (v := 0) (pc := 33) C dX12_comeBack_33 rfl ?_
        exact v_iret (pc := 34) C (Nat.zero_le _) (Nat.zero_le _) dX12_comeBack_34 ⟨(congrArg (fun q => some (Value.int q)) (by show _ = _; rw [V_X12_comeBack, if_neg c_2, if_pos c_3])), vAs_r, (congrArg (fun q => wm q r) (by show _ = _; rw [S_X12_comeBack, if_neg c_2, if_pos c_3]))⟩
    · skip
      refine v_iconst (v := 0) (pc := 22) C dX12_comeBack_22 rfl ?_
      refine v_goto (tgt := 27) (pc := 23) C dX12_comeBack_23 (by decide) ?_
      refine v_callV (pc := 27) C (40, 0) ck_40 rfl (c_X12_isWrong hG (g := g) (0) ) 1 wd_1531 wd_68 wd_1528 wd_1530 wd_35 (by decide +kernel) (by decide) (by decide) rfl ([]) rfl (Nat.le_of_ble_eq_true rfl) ⟨Nat.zero_le _, Nat.zero_le _⟩ dX12_comeBack_27 (fun _ _ _ q => q.elim) (fun v9 A9 h9 hR9 => ?_)
      obtain ⟨rfl, hA9, rfl⟩ := hR9
      obtain rfl := hA9.symm
      refine v_st (k2 := 0) (n2 := 0) (st2 := [.int ((V_X12_isWrong g (0)))]) rfl rfl rfl ?_
      refine v_if_eq (pc := 30) (tgt := 35) C dX12_comeBack_30 (by decide) (fun c_5 => ?_) (fun c_5 => ?_)
      · skip
        refine v_aload_n (pc := 35) C dX12_comeBack_35 0 rfl rfl ?_
        refine v_get (pc := 36) C (40, 0) (v := .ref (A (47, 0))) ck_40 rfl 7 (by decide) inX12 wd_1395 rfl rfl dX12_comeBack_36 ?_
        refine v_iload_n (pc := 39) C dX12_comeBack_39 1 rfl rfl ?_
        refine v_iconst (v := 0) (pc := 40) C dX12_comeBack_40 rfl ?_
        refine v_zast (pc := 41) C (47, 0) (x := 0) ck_47 (by (try simp only [Int32.le_iff_toInt_le, Int32.lt_iff_toInt_lt, ← Int32.toInt_inj, vp_in_iff, Int32.reduceToInt] at c_2 c_3 c_5 b_1 hu hg hf hl0 hl ⊢) <;> omega) (by decide) dX12_comeBack_41 ?_
        refine v_h (h2 := (wm (s3 (S_X12_isWrong g (0)) 47 (u).toNatClampNeg 0 (0)) r)) (u_47_a) ?_
        refine v_aload_n (pc := 42) C dX12_comeBack_42 0 rfl rfl ?_
        refine v_iconst (v := 0) (pc := 43) C dX12_comeBack_43 rfl ?_
        refine v_put (pc := 44) C (40, 0) (v := .int (0)) ck_40 rfl 43 (by decide) inX12 tyX12 tyX12_ok nmX12 wd_1431 rfl (.inl (Value.int (0))) rfl (ty := tyX12 43) (by decide +kernel) rfl rfl (Nat.le_of_ble_eq_true rfl) dX12_comeBack_44 ?_
        refine v_h (h2 := (wm (s3 (s3 (S_X12_isWrong g (0)) 47 (u).toNatClampNeg 0 (0)) 12 0 0 (0)) r)) (u_40_43) ?_
        refine v_iconst (v := 0) (pc := 47) C dX12_comeBack_47 rfl ?_
        refine v_istore_n (lv2 := [(2, .int (0)), (0, .ref (A (40, 0))), (1, .int (u))]) (pc := 48) C dX12_comeBack_48 rfl (by decide) rfl ?_
        refine v_iconst (v := 0) (pc := 49) C dX12_comeBack_49 rfl ?_
        refine v_istore_n (lv2 := [(3, .int (0)), (2, .int (0)), (0, .ref (A (40, 0))), (1, .int (u))]) (pc := 50) C dX12_comeBack_50 rfl (by decide) rfl ?_
        have L_51 : ∀ (n : Nat) (AL_51 : vN → Nat) (i_51 : Nat) (x_51_2 : Int32) (q_51 : vS), i_51 ≤ 10 → 10 + 1 ≤ i_51 + n → (∀ (c i j : Nat), c ≠ 1 → c ≠ 11 → c ≠ 12 → c ≠ 13 → c ≠ 47 → c ≠ 56 → c ≠ 57 → c ≠ 59 → c ≠ 61 → c ≠ 63 → c ≠ 65 → c ≠ 67 → c ≠ 73 → c ≠ 82 → q_51 c i j = g c i j) → vAs 59 59 AL_51  A → vPb g ≤ vPb q_51 → vM1 q_51 → vM2 q_51 → vM3 q_51 → vM7 (B + i_51) q_51 → 0 ≤ (q_51 12 0 0).toInt ∧ (q_51 12 0 0).toInt ≤ i_51 → 0 ≤ (q_51 11 0 0).toInt ∧ (q_51 11 0 0).toInt ≤ 300 → (V_X12_comeBack g u) = VL_X12_comeBack_51 g u n i_51 x_51_2 q_51 → (S_X12_comeBack g u) = SL_X12_comeBack_51 g u n i_51 x_51_2 q_51 → V G 6 X AL_51 (wm q_51 r) (vPb q_51 - vPb g) (2 * (vPb q_51 - vPb g)) (vM G X (fun v A2 h2 => v = some (.int (V_X12_comeBack g u)) ∧ vAs 59 59 A2 A ∧ h2 = wm (S_X12_comeBack g u) r) (vNoX) (vPb (S_X12_comeBack g u) - vPb g) (2 * (vPb (S_X12_comeBack g u) - vPb g))) 51 [(3, .int (nI i_51)), (2, .int (x_51_2)), (0, .ref (AL_51 (40, 0))), (1, .int (u))] [] := by
          intro n
          induction n with
          | zero => intro AL_51 i_51 x_51_2 q_51 hi_51 hc_51 hF_51 hv_51 hp_51 h1_51 h2_51 h3_51 h7_51 hz_51 hl_51 eV_51 eS_51; exact absurd hc_51 (by omega)
          | succ n ih =>
            intro AL_51 i_51 x_51_2 q_51 hi_51 hc_51 hF_51 hv_51 hp_51 h1_51 h2_51 h3_51 h7_51 hz_51 hl_51 eV_51 eS_51
            have hq_51 : (nI i_51).toInt = (i_51 : Int) := nI_toInt (by omega)
            have hr_51 : (nI (i_51 + 1)).toInt = ((i_51 + 1 : Nat) : Int) := nI_toInt (by omega)
            have hpq : vPb q_51 ≤ vPb (S_X12_comeBack g u) := by rw [eS_51]; exact mono_cb h8 h9 hB _ _ _ _ hi_51 h1_51 h2_51 h3_51 h7_51
            have hd_51 := h9 (u).toNatClampNeg
            refine v_iload_n (pc := 51) C dX12_comeBack_51 0 rfl rfl ?_
            refine v_aload_n (pc := 52) C dX12_comeBack_52 2 rfl rfl ?_
            refine v_get (pc := 53) C (40, 0) (v := .ref (AL_51 (81, 0))) ck_40 rfl 41 (by decide) inX12 wd_1429 rfl rfl dX12_comeBack_53 ?_
            refine v_iload_n (pc := 56) C dX12_comeBack_56 3 rfl rfl ?_
            refine v_iald (pc := 57) C (81, 0) (v := (g 81 (u).toNatClampNeg 0)) ck_81 (by (try simp only [Int32.le_iff_toInt_le, Int32.lt_iff_toInt_lt, ← Int32.toInt_inj, vp_in_iff, Int32.reduceToInt] at c_2 c_3 c_5 b_1 hq_51 hr_51 hu hg hf hl0 hl ⊢) <;> omega) (hF_51 _ _ _ (by decide) (by decide) (by decide) (by decide) (by decide) (by decide) (by decide) (by decide) (by decide) (by decide) (by decide) (by decide) (by decide) (by decide)) dX12_comeBack_57 ?_
            refine v_icmp_ge (pc := 58) (tgt := 176) C dX12_comeBack_58 (by decide) (fun c_6 => ?_) (fun c_6 => ?_)
            · skip
              refine v_aload_n (pc := 176) C dX12_comeBack_176 2 rfl rfl ?_
              refine v_get (pc := 177) C (40, 0) (v := .ref (AL_51 (81, 0))) ck_40 rfl 41 (by decide) inX12 wd_1429 rfl rfl dX12_comeBack_177 ?_
              refine v_iload_n (pc := 180) C dX12_comeBack_180 3 rfl rfl ?_
              refine v_iconst (v := 0) (pc := 181) C dX12_comeBack_181 rfl ?_
              refine v_iast (pc := 182) C (81, 0) (x := 0) ck_81 (by (try simp only [Int32.le_iff_toInt_le, Int32.lt_iff_toInt_lt, ← Int32.toInt_inj, vp_in_iff, Int32.reduceToInt] at c_2 c_3 c_5 c_6 b_1 hq_51 hr_51 hu hg hf hl0 hl ⊢) <;> omega) dX12_comeBack_182 ?_
              refine v_h (h2 := (wm (s3 q_51 81 (u).toNatClampNeg 0 (0)) r)) (u_81_a) ?_
              have hpe : vPb (S_X12_comeBack g u) = vPb q_51 := (congrArg vPb (show S_X12_comeBack g u = (s3 q_51 81 (u).toNatClampNeg 0 (0)) from (by rw [eS_51, SL_X12_comeBack_51, if_pos c_6]))).trans (vPb_k (fun _ _ => s3_k (by decide)))
              refine v_iload_n (pc := 183) C dX12_comeBack_183 1 rfl rfl ?_
              exact v_iret (pc := 184) C (by omega) (by omega) dX12_comeBack_184 ⟨(congrArg (fun q => some (Value.int q)) (by show _ = _; rw [eV_51, VL_X12_comeBack_51, if_pos c_6])), (vAs_w hv_51 (by decide) (by decide)), (congrArg (fun q => wm q r) (by show _ = _; rw [eS_51, SL_X12_comeBack_51, if_pos c_6]))⟩
            · skip
              refine v_aload_n (pc := 61) C dX12_comeBack_61 2 rfl rfl ?_
              refine v_get (pc := 62) C (40, 0) (v := .ref (AL_51 (75, 0))) ck_40 rfl 38 (by decide) inX12 wd_1426 rfl rfl dX12_comeBack_62 ?_
              refine v_iload_n (pc := 65) C dX12_comeBack_65 3 rfl rfl ?_
              refine v_aald (pc := 66) C (75, 0) ck_75 rfl rfl (by (try simp only [Int32.le_iff_toInt_le, Int32.lt_iff_toInt_lt, ← Int32.toInt_inj, vp_in_iff, Int32.reduceToInt] at c_2 c_3 c_5 c_6 b_1 hq_51 hr_51 hu hg hf hl0 hl ⊢) <;> omega) (76, (u).toNatClampNeg) rfl dX12_comeBack_66 ?_
              refine v_iload_n (pc := 67) C dX12_comeBack_67 0 rfl rfl ?_
              refine v_iald (pc := 68) C (76, (u).toNatClampNeg) (v := (g 76 (u).toNatClampNeg i_51)) (ck_76 (g := q_51) (tn_lt (by (try simp only [Int32.le_iff_toInt_le, Int32.lt_iff_toInt_lt, ← Int32.toInt_inj, Int32.reduceToInt] at c_2 c_3 c_5 c_6 b_1 hq_51 hr_51 hu hg hf hl0 hl ⊢); omega))) (by (try simp only [Int32.le_iff_toInt_le, Int32.lt_iff_toInt_lt, ← Int32.toInt_inj, vp_in_iff, Int32.reduceToInt] at c_2 c_3 c_5 c_6 b_1 hq_51 hr_51 hu hg hf hl0 hl ⊢) <;> omega) ((congrArg (fun k => q_51 76 (u).toNatClampNeg k) (show (nI i_51 : Int32).toNatClampNeg = i_51 from (nI_clamp (by omega)))).trans (hF_51 _ _ _ (by decide) (by decide) (by decide) (by decide) (by decide) (by decide) (by decide) (by decide) (by decide) (by decide) (by decide) (by decide) (by decide) (by decide))) dX12_comeBack_68 ?_
              refine v_bipush (v := 8) (pc := 69) C dX12_comeBack_69 (by decide) ?_
              refine v_idiv (pc := 71) C dX12_comeBack_71 (by decide) ?_
              have b_7 := h8 (u).toNatClampNeg i_51
              have b_8 := i32_div8 b_7.1 b_7.2
              refine v_istore (lv2 := [(4, .int (((g 76 (u).toNatClampNeg i_51) / 8))), (3, .int (nI i_51)), (2, .int (x_51_2)), (0, .ref (AL_51 (40, 0))), (1, .int (u))]) (pc := 72) C dX12_comeBack_72 (by decide) rfl ?_
              refine v_aload_n (pc := 74) C dX12_comeBack_74 3 rfl rfl ?_
              refine v_get (pc := 75) C (40, 0) (v := .ref (AL_51 (75, 0))) ck_40 rfl 38 (by decide) inX12 wd_1426 rfl rfl dX12_comeBack_75 ?_
              refine v_iload_n (pc := 78) C dX12_comeBack_78 4 rfl rfl ?_
              refine v_aald (pc := 79) C (75, 0) ck_75 rfl rfl (by (try simp only [Int32.le_iff_toInt_le, Int32.lt_iff_toInt_lt, ← Int32.toInt_inj, vp_in_iff, Int32.reduceToInt] at c_2 c_3 c_5 c_6 b_1 hq_51 hr_51 b_7 b_8 hu hg hf hl0 hl ⊢) <;> omega) (76, (u).toNatClampNeg) rfl dX12_comeBack_79 ?_
              refine v_iload_n (pc := 80) C dX12_comeBack_80 1 rfl rfl ?_
              refine v_iald (pc := 81) C (76, (u).toNatClampNeg) (v := (g 76 (u).toNatClampNeg i_51)) (ck_76 (g := q_51) (tn_lt (by (try simp only [Int32.le_iff_toInt_le, Int32.lt_iff_toInt_lt, ← Int32.toInt_inj, Int32.reduceToInt] at c_2 c_3 c_5 c_6 b_1 hq_51 hr_51 hu hg hf hl0 hl ⊢); omega))) (by (try simp only [Int32.le_iff_toInt_le, Int32.lt_iff_toInt_lt, ← Int32.toInt_inj, vp_in_iff, Int32.reduceToInt] at c_2 c_3 c_5 c_6 b_1 hq_51 hr_51 b_7 b_8 hu hg hf hl0 hl ⊢) <;> omega) ((congrArg (fun k => q_51 76 (u).toNatClampNeg k) (show (nI i_51 : Int32).toNatClampNeg = i_51 from (nI_clamp (by omega)))).trans (hF_51 _ _ _ (by decide) (by decide) (by decide) (by decide) (by decide) (by decide) (by decide) (by decide) (by decide) (by decide) (by decide) (by decide) (by decide) (by decide))) dX12_comeBack_81 ?_
              refine v_bipush (v := 8) (pc := 82) C dX12_comeBack_82 (by decide) ?_
              refine v_irem (pc := 84) C dX12_comeBack_84 (by decide) ?_
              have b_9 := i32_rem8 (h8 (u).toNatClampNeg i_51).1 (h8 (u).toNatClampNeg i_51).2
              refine v_istore (lv2 := [(5, .int (((g 76 (u).toNatClampNeg i_51) - (g 76 (u).toNatClampNeg i_51) / 8 * 8))), (4, .int (((g 76 (u).toNatClampNeg i_51) / 8))), (3, .int (nI i_51)), (2, .int (x_51_2)), (0, .ref (AL_51 (40, 0))), (1, .int (u))]) (pc := 85) C dX12_comeBack_85 (by decide) rfl ?_
              refine v_aload_n (pc := 87) C dX12_comeBack_87 4 rfl rfl ?_
              refine v_iload_n (pc := 88) C dX12_comeBack_88 5 rfl rfl ?_
              refine v_iload (pc := 89) C dX12_comeBack_89 1 rfl ?_
              refine v_iload (pc := 91) C dX12_comeBack_91 0 rfl ?_
              refine v_callV (pc := 93) C (40, 0) ck_40 rfl (c_X12_cannotWrite hG (g := q_51) (u) (((g 76 (u).toNatClampNeg i_51) / 8)) (((g 76 (u).toNatClampNeg i_51) - (g 76 (u).toNatClampNeg i_51) / 8 * 8)) (by rw [show q_51 2 0 0 = g 2 0 0 from hF_51 _ _ _ (by decide) (by decide) (by decide) (by decide) (by decide) (by decide) (by decide) (by decide) (by decide) (by decide) (by decide) (by decide) (by decide) (by decide)]; exact hu0) (by rw [show q_51 2 0 0 = g 2 0 0 from hF_51 _ _ _ (by decide) (by decide) (by decide) (by decide) (by decide) (by decide) (by decide) (by decide) (by decide) (by decide) (by decide) (by decide) (by decide) (by decide)]; exact hu) (by rw [show q_51 3 0 0 = g 3 0 0 from hF_51 _ _ _ (by decide) (by decide) (by decide) (by decide) (by decide) (by decide) (by decide) (by decide) (by decide) (by decide) (by decide) (by decide) (by decide) (by decide)]; exact hg0) (by rw [show q_51 3 0 0 = g 3 0 0 from hF_51 _ _ _ (by decide) (by decide) (by decide) (by decide) (by decide) (by decide) (by decide) (by decide) (by decide) (by decide) (by decide) (by decide) (by decide) (by decide)]; exact hg) (by rw [show q_51 4 0 0 = g 4 0 0 from hF_51 _ _ _ (by decide) (by decide) (by decide) (by decide) (by decide) (by decide) (by decide) (by decide) (by decide) (by decide) (by decide) (by decide) (by decide) (by decide)]; exact hf0) (by rw [show q_51 4 0 0 = g 4 0 0 from hF_51 _ _ _ (by decide) (by decide) (by decide) (by decide) (by decide) (by decide) (by decide) (by decide) (by decide) (by decide) (by decide) (by decide) (by decide) (by decide)]; exact hf) (by (try simp only [Int32.le_iff_toInt_le, Int32.lt_iff_toInt_lt, ← Int32.toInt_inj, Int32.reduceToInt] at c_2 c_3 c_5 c_6 b_1 hq_51 hr_51 b_7 b_8 b_9 hu hg hf hl0 hl ⊢); omega) (by (try simp only [Int32.le_iff_toInt_le, Int32.lt_iff_toInt_lt, ← Int32.toInt_inj, Int32.reduceToInt] at c_2 c_3 c_5 c_6 b_1 hq_51 hr_51 b_7 b_8 b_9 hu hg hf hl0 hl ⊢); omega) (by (try simp only [Int32.le_iff_toInt_le, Int32.lt_iff_toInt_lt, ← Int32.toInt_inj, Int32.reduceToInt] at c_2 c_3 c_5 c_6 b_1 hq_51 hr_51 b_7 b_8 b_9 hu hg hf hl0 hl ⊢); omega) (by (try simp only [Int32.le_iff_toInt_le, Int32.lt_iff_toInt_lt, ← Int32.toInt_inj, Int32.reduceToInt] at c_2 c_3 c_5 c_6 b_1 hq_51 hr_51 b_7 b_8 b_9 hu hg hf hl0 hl ⊢); omega) (by (try simp only [Int32.le_iff_toInt_le, Int32.lt_iff_toInt_lt, ← Int32.toInt_inj, Int32.reduceToInt] at c_2 c_3 c_5 c_6 b_1 hq_51 hr_51 b_7 b_8 b_9 hu hg hf hl0 hl ⊢); omega) (by (try simp only [Int32.le_iff_toInt_le, Int32.lt_iff_toInt_lt, ← Int32.toInt_inj, Int32.reduceToInt] at c_2 c_3 c_5 c_6 b_1 hq_51 hr_51 b_7 b_8 b_9 hu hg hf hl0 hl ⊢); omega) h1_51 h2_51 h3_51) 3 wd_1620 wd_68 wd_1617 wd_1619 wd_46 (by decide +kernel) (by decide) (by decide) rfl ([]) rfl (Nat.le_of_ble_eq_true rfl) ⟨by omega, by omega⟩ dX12_comeBack_93 (fun _ _ _ q => q.elim) (fun v9 A9 h9 hR9 => ?_)
              obtain ⟨rfl, hA9, rfl⟩ := hR9
              obtain rfl := hA9.symm
              refine v_st (k2 := (vPb q_51 - vPb g)) (n2 := (2 * (vPb q_51 - vPb g))) (st2 := [.int ((V_X12_cannotWrite q_51 (u) (((g 76 (u).toNatClampNeg i_51) / 8)) (((g 76 (u).toNatClampNeg i_51) - (g 76 (u).toNatClampNeg i_51) / 8 * 8))))]) rfl rfl rfl ?_
              have b_10 := ok_cannot (g := q_51) (u := u) (x := ((g 76 (u).toNatClampNeg i_51) / 8)) (y := ((g 76 (u).toNatClampNeg i_51) - (g 76 (u).toNatClampNeg i_51) / 8 * 8))
              refine v_if_ne (pc := 96) (tgt := 143) C dX12_comeBack_96 (by decide) (fun c_11 => ?_) (fun c_11 => ?_)
              · skip
                refine v_aload_n (pc := 143) C dX12_comeBack_143 4 rfl rfl ?_
                refine v_get (pc := 144) C (40, 0) (v := .ref (AL_51 (82, 0))) ck_40 rfl 42 (by decide) inX12 wd_1430 rfl rfl dX12_comeBack_144 ?_
                refine v_aload_n (pc := 147) C dX12_comeBack_147 4 rfl rfl ?_
                refine v_get (pc := 148) C (40, 0) (v := .int ((q_51 12 0 0))) ck_40 rfl 43 (by decide) inX12 wd_1431 rfl rfl dX12_comeBack_148 ?_
                refine v_aload_n (pc := 151) C dX12_comeBack_151 4 rfl rfl ?_
                refine v_get (pc := 152) C (40, 0) (v := .ref (AL_51 (75, 0))) ck_40 rfl 38 (by decide) inX12 wd_1426 rfl rfl dX12_comeBack_152 ?_
                refine v_iload_n (pc := 155) C dX12_comeBack_155 5 rfl rfl ?_
                refine v_aald (pc := 156) C (75, 0) ck_75 rfl rfl (by (try simp only [Int32.le_iff_toInt_le, Int32.lt_iff_toInt_lt, ← Int32.toInt_inj, vp_in_iff, Int32.reduceToInt] at c_2 c_3 c_5 c_6 c_11 b_1 hq_51 hr_51 b_7 b_8 b_9 b_10 hu hg hf hl0 hl ⊢) <;> omega) (76, (u).toNatClampNeg) rfl dX12_comeBack_156 ?_
                refine v_iload_n (pc := 157) C dX12_comeBack_157 2 rfl rfl ?_
                refine v_iald (pc := 158) C (76, (u).toNatClampNeg) (v := (g 76 (u).toNatClampNeg i_51)) (ck_76 (g := q_51) (tn_lt (by (try simp only [Int32.le_iff_toInt_le, Int32.lt_iff_toInt_lt, ← Int32.toInt_inj, Int32.reduceToInt] at c_2 c_3 c_5 c_6 b_1 hq_51 hr_51 hu hg hf hl0 hl ⊢); omega))) (by (try simp only [Int32.le_iff_toInt_le, Int32.lt_iff_toInt_lt, ← Int32.toInt_inj, vp_in_iff, Int32.reduceToInt] at c_2 c_3 c_5 c_6 c_11 b_1 hq_51 hr_51 b_7 b_8 b_9 b_10 hu hg hf hl0 hl ⊢) <;> omega) ((congrArg (fun k => q_51 76 (u).toNatClampNeg k) (show (nI i_51 : Int32).toNatClampNeg = i_51 from (nI_clamp (by omega)))).trans (hF_51 _ _ _ (by decide) (by decide) (by decide) (by decide) (by decide) (by decide) (by decide) (by decide) (by decide) (by decide) (by decide) (by decide) (by decide) (by decide))) dX12_comeBack_158 ?_
                refine v_iast (pc := 159) C (82, 0) (x := (g 76 (u).toNatClampNeg i_51)) ck_82 (by (try simp only [Int32.le_iff_toInt_le, Int32.lt_iff_toInt_lt, ← Int32.toInt_inj, vp_in_iff, Int32.reduceToInt] at c_2 c_3 c_5 c_6 c_11 b_1 hq_51 hr_51 b_7 b_8 b_9 b_10 hu hg hf hl0 hl ⊢) <;> omega) dX12_comeBack_159 ?_
                refine v_h (h2 := (wm (s3 q_51 82 ((q_51 12 0 0)).toNatClampNeg 0 ((g 76 (u).toNatClampNeg i_51))) r)) (u_82_a) ?_
                refine v_aload_n (pc := 160) C dX12_comeBack_160 4 rfl rfl ?_
                refine v_dup (pc := 161) C dX12_comeBack_161 rfl ?_
                refine v_get (pc := 162) C (40, 0) (v := .int ((q_51 12 0 0))) ck_40 rfl 43 (by decide) inX12 wd_1431 rfl rfl dX12_comeBack_162 ?_
                refine v_iconst (v := 1) (pc := 165) C dX12_comeBack_165 rfl ?_
                refine v_iadd (pc := 166) C dX12_comeBack_166 ?_
                refine v_put (pc := 167) C (40, 0) (v := .int (((q_51 12 0 0) + 1))) ck_40 rfl 43 (by decide) inX12 tyX12 tyX12_ok nmX12 wd_1431 rfl (.inl (Value.int (((q_51 12 0 0) + 1)))) rfl (ty := tyX12 43) (by decide +kernel) rfl rfl (Nat.le_of_ble_eq_true rfl) dX12_comeBack_167 ?_
                refine v_h (h2 := (wm (s3 (s3 q_51 82 ((q_51 12 0 0)).toNatClampNeg 0 ((g 76 (u).toNatClampNeg i_51))) 12 0 0 (((q_51 12 0 0) + 1))) r)) (u_40_43) ?_
                have hpm : vPb (s3 (s3 q_51 82 ((q_51 12 0 0)).toNatClampNeg 0 ((g 76 (u).toNatClampNeg i_51))) 12 0 0 (((q_51 12 0 0) + 1))) = vPb q_51 := vPb_k (fun _ _ => (s3_k (by decide)).trans (s3_k (by decide)))
                refine v_iinc (v := nI (i_51 + 1)) (lv2 := [(3, .int (nI (i_51 + 1))), (5, .int (((g 76 (u).toNatClampNeg i_51) - (g 76 (u).toNatClampNeg i_51) / 8 * 8))), (4, .int (((g 76 (u).toNatClampNeg i_51) / 8))), (2, .int (x_51_2)), (0, .ref (AL_51 (40, 0))), (1, .int (u))]) (pc := 170) C dX12_comeBack_170 2 rfl (nI_1 _) (by decide) rfl ?_
                refine v_goto (tgt := 51) (pc := 173) C dX12_comeBack_173 (by decide) ?_
                refine v_lv (lv2 := [(3, .int (nI (i_51 + 1))), (2, .int (x_51_2)), (0, .ref (AL_51 (40, 0))), (1, .int (u))]) [0, 3, 4, 5] rfl ?_
                refine v_widen (k2 := (vPb (s3 (s3 q_51 82 ((q_51 12 0 0)).toNatClampNeg 0 ((g 76 (u).toNatClampNeg i_51))) 12 0 0 (((q_51 12 0 0) + 1))) - vPb g)) (n2 := (2 * (vPb (s3 (s3 q_51 82 ((q_51 12 0 0)).toNatClampNeg 0 ((g 76 (u).toNatClampNeg i_51))) 12 0 0 (((q_51 12 0 0) + 1))) - vPb g))) (by omega) (by omega) ?_
                exact ih AL_51 (i_51 + 1) (x_51_2) (s3 (s3 q_51 82 ((q_51 12 0 0)).toNatClampNeg 0 ((g 76 (u).toNatClampNeg i_51))) 12 0 0 (((q_51 12 0 0) + 1))) (by (try simp only [Int32.le_iff_toInt_le, Int32.lt_iff_toInt_lt, ← Int32.toInt_inj, vp_in_iff, Int32.reduceToInt] at c_2 c_3 c_5 c_6 c_11 b_1 hq_51 hr_51 b_7 b_8 b_9 b_10 hu hg hf hl0 hl ⊢) <;> omega) (by omega) (fun c i j h1 h11 h12 h13 h47 h56 h57 h59 h61 h63 h65 h67 h73 h82 => (s3_k h12).trans ((s3_k h82).trans (hF_51 c i j h1 h11 h12 h13 h47 h56 h57 h59 h61 h63 h65 h67 h73 h82))) (vAs_w hv_51 (by decide) (by decide)) (by omega) (vM1_k (fun _ _ => s3_k (by decide)) (vM1_k (fun _ _ => s3_k (by decide)) h1_51)) (vM2_k (fun _ _ => s3_k (by decide)) (fun _ _ => s3_k (by decide)) (vM2_k (fun _ _ => s3_k (by decide)) (fun _ _ => s3_k (by decide)) h2_51)) (vM3_k (fun _ _ => s3_k (by decide)) (fun _ _ => s3_k (by decide)) (vM3_k (fun _ _ => s3_k (by decide)) (fun _ _ => s3_k (by decide)) h3_51)) (vM7_le (by omega) (vM7_k (fun _ _ => s3_k (by decide)) (fun _ _ => s3_k (by decide)) (vM7_k (fun _ _ => s3_k (by decide)) (fun _ _ => s3_k (by decide)) h7_51))) (by rw [show (s3 (s3 q_51 82 ((q_51 12 0 0)).toNatClampNeg 0 ((g 76 (u).toNatClampNeg i_51))) 12 0 0 (((q_51 12 0 0) + 1))) 12 0 0 = ((q_51 12 0 0) + 1) from s3_s, i32_add1 (by omega)]; simp only [Int32.le_iff_toInt_le, Int32.lt_iff_toInt_lt, ← Int32.toInt_inj] at c_2 c_3 c_5 c_6 c_11 b_1 hq_51 hr_51 b_7 b_8 b_9 b_10; omega) (by rw [show (s3 (s3 q_51 82 ((q_51 12 0 0)).toNatClampNeg 0 ((g 76 (u).toNatClampNeg i_51))) 12 0 0 (((q_51 12 0 0) + 1))) 11 0 0 = q_51 11 0 0 from (s3_k (by decide)).trans (s3_k (by decide))]; exact hl_51) (by rw [eV_51, VL_X12_comeBack_51, if_neg c_6, if_neg c_11]) (by rw [eS_51, SL_X12_comeBack_51, if_neg c_6, if_neg c_11])
              · skip
                refine v_aload_n (pc := 99) C dX12_comeBack_99 4 rfl rfl ?_
                refine v_get (pc := 100) C (40, 0) (v := .ref (AL_51 (62, 0))) ck_40 rfl 20 (by decide) inX12 wd_1408 rfl rfl dX12_comeBack_100 ?_
                refine v_iload (pc := 103) C dX12_comeBack_103 1 rfl ?_
                refine v_aald (pc := 105) C (62, 0) ck_62 rfl rfl (by (try simp only [Int32.le_iff_toInt_le, Int32.lt_iff_toInt_lt, ← Int32.toInt_inj, vp_in_iff, Int32.reduceToInt] at c_2 c_3 c_5 c_6 c_11 b_1 hq_51 hr_51 b_7 b_8 b_9 b_10 hu hg hf hl0 hl ⊢) <;> omega) (63, (((g 76 (u).toNatClampNeg i_51) / 8)).toNatClampNeg) rfl dX12_comeBack_105 ?_
                refine v_iload (pc := 106) C dX12_comeBack_106 0 rfl ?_
                refine v_iald (pc := 108) C (63, (((g 76 (u).toNatClampNeg i_51) / 8)).toNatClampNeg) (v := (q_51 63 (((g 76 (u).toNatClampNeg i_51) / 8)).toNatClampNeg (((g 76 (u).toNatClampNeg i_51) - (g 76 (u).toNatClampNeg i_51) / 8 * 8)).toNatClampNeg)) (ck_63 (g := q_51) (tn_lt (by (try simp only [Int32.le_iff_toInt_le, Int32.lt_iff_toInt_lt, ← Int32.toInt_inj, Int32.reduceToInt] at c_2 c_3 c_5 c_6 c_11 b_1 hq_51 hr_51 b_7 b_8 b_9 b_10 hu hg hf hl0 hl ⊢); omega))) (by (try simp only [Int32.le_iff_toInt_le, Int32.lt_iff_toInt_lt, ← Int32.toInt_inj, vp_in_iff, Int32.reduceToInt] at c_2 c_3 c_5 c_6 c_11 b_1 hq_51 hr_51 b_7 b_8 b_9 b_10 hu hg hf hl0 hl ⊢) <;> omega) rfl dX12_comeBack_108 ?_
                refine v_aload_n (pc := 109) C dX12_comeBack_109 4 rfl rfl ?_
                refine v_get (pc := 110) C (40, 0) (v := .ref (AL_51 (79, 0))) ck_40 rfl 40 (by decide) inX12 wd_1428 rfl rfl dX12_comeBack_110 ?_
                refine v_iload_n (pc := 113) C dX12_comeBack_113 5 rfl rfl ?_
                refine v_aald (pc := 114) C (79, 0) ck_79 rfl rfl (by (try simp only [Int32.le_iff_toInt_le, Int32.lt_iff_toInt_lt, ← Int32.toInt_inj, vp_in_iff, Int32.reduceToInt] at c_2 c_3 c_5 c_6 c_11 b_1 hq_51 hr_51 b_7 b_8 b_9 b_10 hu hg hf hl0 hl ⊢) <;> omega) (80, (u).toNatClampNeg) rfl dX12_comeBack_114 ?_
                refine v_iload_n (pc := 115) C dX12_comeBack_115 2 rfl rfl ?_
                refine v_iald (pc := 116) C (80, (u).toNatClampNeg) (v := (g 80 (u).toNatClampNeg i_51)) (ck_80 (g := q_51) (tn_lt (by (try simp only [Int32.le_iff_toInt_le, Int32.lt_iff_toInt_lt, ← Int32.toInt_inj, Int32.reduceToInt] at c_2 c_3 c_5 c_6 c_11 b_1 hq_51 hr_51 b_7 b_8 b_9 b_10 hu hg hf hl0 hl ⊢); omega))) (by (try simp only [Int32.le_iff_toInt_le, Int32.lt_iff_toInt_lt, ← Int32.toInt_inj, vp_in_iff, Int32.reduceToInt] at c_2 c_3 c_5 c_6 c_11 b_1 hq_51 hr_51 b_7 b_8 b_9 b_10 hu hg hf hl0 hl ⊢) <;> omega) ((congrArg (fun k => q_51 80 (u).toNatClampNeg k) (show (nI i_51 : Int32).toNatClampNeg = i_51 from (nI_clamp (by omega)))).trans (hF_51 _ _ _ (by decide) (by decide) (by decide) (by decide) (by decide) (by decide) (by decide) (by decide) (by decide) (by decide) (by decide) (by decide) (by decide) (by decide))) dX12_comeBack_116 ?_
                refine v_icmp_ne (pc := 117) (tgt := 143) C dX12_comeBack_117 (by decide) (fun c_12 => ?_) (fun c_12 => ?_)
                · skip
                  refine v_aload_n (pc := 143) C dX12_comeBack_143 4 rfl rfl ?_
                  refine v_get (pc := 144) C (40, 0) (v := .ref (AL_51 (82, 0))) ck_40 rfl 42 (by decide) inX12 wd_1430 rfl rfl dX12_comeBack_144 ?_
                  refine v_aload_n (pc := 147) C dX12_comeBack_147 4 rfl rfl ?_
                  refine v_get (pc := 148) C (40, 0) (v := .int ((q_51 12 0 0))) ck_40 rfl 43 (by decide) inX12 wd_1431 rfl rfl dX12_comeBack_148 ?_
                  refine v_aload_n (pc := 151) C dX12_comeBack_151 4 rfl rfl ?_
                  refine v_get (pc := 152) C (40, 0) (v := .ref (AL_51 (75, 0))) ck_40 rfl 38 (by decide) inX12 wd_1426 rfl rfl dX12_comeBack_152 ?_
                  refine v_iload_n (pc := 155) C dX12_comeBack_155 5 rfl rfl ?_
                  refine v_aald (pc := 156) C (75, 0) ck_75 rfl rfl (by (try simp only [Int32.le_iff_toInt_le, Int32.lt_iff_toInt_lt, ← Int32.toInt_inj, vp_in_iff, Int32.reduceToInt] at c_2 c_3 c_5 c_6 c_11 c_12 b_1 hq_51 hr_51 b_7 b_8 b_9 b_10 hu hg hf hl0 hl ⊢) <;> omega) (76, (u).toNatClampNeg) rfl dX12_comeBack_156 ?_
                  refine v_iload_n (pc := 157) C dX12_comeBack_157 2 rfl rfl ?_
                  refine v_iald (pc := 158) C (76, (u).toNatClampNeg) (v := (g 76 (u).toNatClampNeg i_51)) (ck_76 (g := q_51) (tn_lt (by (try simp only [Int32.le_iff_toInt_le, Int32.lt_iff_toInt_lt, ← Int32.toInt_inj, Int32.reduceToInt] at c_2 c_3 c_5 c_6 b_1 hq_51 hr_51 hu hg hf hl0 hl ⊢); omega))) (by (try simp only [Int32.le_iff_toInt_le, Int32.lt_iff_toInt_lt, ← Int32.toInt_inj, vp_in_iff, Int32.reduceToInt] at c_2 c_3 c_5 c_6 c_11 c_12 b_1 hq_51 hr_51 b_7 b_8 b_9 b_10 hu hg hf hl0 hl ⊢) <;> omega) ((congrArg (fun k => q_51 76 (u).toNatClampNeg k) (show (nI i_51 : Int32).toNatClampNeg = i_51 from (nI_clamp (by omega)))).trans (hF_51 _ _ _ (by decide) (by decide) (by decide) (by decide) (by decide) (by decide) (by decide) (by decide) (by decide) (by decide) (by decide) (by decide) (by decide) (by decide))) dX12_comeBack_158 ?_
                  refine v_iast (pc := 159) C (82, 0) (x := (g 76 (u).toNatClampNeg i_51)) ck_82 (by (try simp only [Int32.le_iff_toInt_le, Int32.lt_iff_toInt_lt, ← Int32.toInt_inj, vp_in_iff, Int32.reduceToInt] at c_2 c_3 c_5 c_6 c_11 c_12 b_1 hq_51 hr_51 b_7 b_8 b_9 b_10 hu hg hf hl0 hl ⊢) <;> omega) dX12_comeBack_159 ?_
                  refine v_h (h2 := (wm (s3 q_51 82 ((q_51 12 0 0)).toNatClampNeg 0 ((g 76 (u).toNatClampNeg i_51))) r)) (u_82_a) ?_
                  refine v_aload_n (pc := 160) C dX12_comeBack_160 4 rfl rfl ?_
                  refine v_dup (pc := 161) C dX12_comeBack_161 rfl ?_
                  refine v_get (pc := 162) C (40, 0) (v := .int ((q_51 12 0 0))) ck_40 rfl 43 (by decide) inX12 wd_1431 rfl rfl dX12_comeBack_162 ?_
                  refine v_iconst (v := 1) (pc := 165) C dX12_comeBack_165 rfl ?_
                  refine v_iadd (pc := 166) C dX12_comeBack_166 ?_
                  refine v_put (pc := 167) C (40, 0) (v := .int (((q_51 12 0 0) + 1))) ck_40 rfl 43 (by decide) inX12 tyX12 tyX12_ok nmX12 wd_1431 rfl (.inl (Value.int (((q_51 12 0 0) + 1)))) rfl (ty := tyX12 43) (by decide +kernel) rfl rfl (Nat.le_of_ble_eq_true rfl) dX12_comeBack_167 ?_
                  refine v_h (h2 := (wm (s3 (s3 q_51 82 ((q_51 12 0 0)).toNatClampNeg 0 ((g 76 (u).toNatClampNeg i_51))) 12 0 0 (((q_51 12 0 0) + 1))) r)) (u_40_43) ?_
                  have hpm : vPb (s3 (s3 q_51 82 ((q_51 12 0 0)).toNatClampNeg 0 ((g 76 (u).toNatClampNeg i_51))) 12 0 0 (((q_51 12 0 0) + 1))) = vPb q_51 := vPb_k (fun _ _ => (s3_k (by decide)).trans (s3_k (by decide)))
                  refine v_iinc (v := nI (i_51 + 1)) (lv2 := [(3, .int (nI (i_51 + 1))), (5, .int (((g 76 (u).toNatClampNeg i_51) - (g 76 (u).toNatClampNeg i_51) / 8 * 8))), (4, .int (((g 76 (u).toNatClampNeg i_51) / 8))), (2, .int (x_51_2)), (0, .ref (AL_51 (40, 0))), (1, .int (u))]) (pc := 170) C dX12_comeBack_170 2 rfl (nI_1 _) (by decide) rfl ?_
                  refine v_goto (tgt := 51) (pc := 173) C dX12_comeBack_173 (by decide) ?_
                  refine v_lv (lv2 := [(3, .int (nI (i_51 + 1))), (2, .int (x_51_2)), (0, .ref (AL_51 (40, 0))), (1, .int (u))]) [0, 3, 4, 5] rfl ?_
                  refine v_widen (k2 := (vPb (s3 (s3 q_51 82 ((q_51 12 0 0)).toNatClampNeg 0 ((g 76 (u).toNatClampNeg i_51))) 12 0 0 (((q_51 12 0 0) + 1))) - vPb g)) (n2 := (2 * (vPb (s3 (s3 q_51 82 ((q_51 12 0 0)).toNatClampNeg 0 ((g 76 (u).toNatClampNeg i_51))) 12 0 0 (((q_51 12 0 0) + 1))) - vPb g))) (by omega) (by omega) ?_
                  exact ih AL_51 (i_51 + 1) (x_51_2) (s3 (s3 q_51 82 ((q_51 12 0 0)).toNatClampNeg 0 ((g 76 (u).toNatClampNeg i_51))) 12 0 0 (((q_51 12 0 0) + 1))) (by (try simp only [Int32.le_iff_toInt_le, Int32.lt_iff_toInt_lt, ← Int32.toInt_inj, vp_in_iff, Int32.reduceToInt] at c_2 c_3 c_5 c_6 c_11 c_12 b_1 hq_51 hr_51 b_7 b_8 b_9 b_10 hu hg hf hl0 hl ⊢) <;> omega) (by omega) (fun c i j h1 h11 h12 h13 h47 h56 h57 h59 h61 h63 h65 h67 h73 h82 => (s3_k h12).trans ((s3_k h82).trans (hF_51 c i j h1 h11 h12 h13 h47 h56 h57 h59 h61 h63 h65 h67 h73 h82))) (vAs_w hv_51 (by decide) (by decide)) (by omega) (vM1_k (fun _ _ => s3_k (by decide)) (vM1_k (fun _ _ => s3_k (by decide)) h1_51)) (vM2_k (fun _ _ => s3_k (by decide)) (fun _ _ => s3_k (by decide)) (vM2_k (fun _ _ => s3_k (by decide)) (fun _ _ => s3_k (by decide)) h2_51)) (vM3_k (fun _ _ => s3_k (by decide)) (fun _ _ => s3_k (by decide)) (vM3_k (fun _ _ => s3_k (by decide)) (fun _ _ => s3_k (by decide)) h3_51)) (vM7_le (by omega) (vM7_k (fun _ _ => s3_k (by decide)) (fun _ _ => s3_k (by decide)) (vM7_k (fun _ _ => s3_k (by decide)) (fun _ _ => s3_k (by decide)) h7_51))) (by rw [show (s3 (s3 q_51 82 ((q_51 12 0 0)).toNatClampNeg 0 ((g 76 (u).toNatClampNeg i_51))) 12 0 0 (((q_51 12 0 0) + 1))) 12 0 0 = ((q_51 12 0 0) + 1) from s3_s, i32_add1 (by omega)]; simp only [Int32.le_iff_toInt_le, Int32.lt_iff_toInt_lt, ← Int32.toInt_inj] at c_2 c_3 c_5 c_6 c_11 c_12 b_1 hq_51 hr_51 b_7 b_8 b_9 b_10; omega) (by rw [show (s3 (s3 q_51 82 ((q_51 12 0 0)).toNatClampNeg 0 ((g 76 (u).toNatClampNeg i_51))) 12 0 0 (((q_51 12 0 0) + 1))) 11 0 0 = q_51 11 0 0 from (s3_k (by decide)).trans (s3_k (by decide))]; exact hl_51) (by rw [eV_51, VL_X12_comeBack_51, if_neg c_6, if_pos c_11, if_neg c_12]) (by rw [eS_51, SL_X12_comeBack_51, if_neg c_6, if_pos c_11, if_neg c_12])
                · skip
                  refine v_aload_n (pc := 120) C dX12_comeBack_120 4 rfl rfl ?_
                  refine v_iload (pc := 121) C dX12_comeBack_121 1 rfl ?_
                  refine v_iload (pc := 123) C dX12_comeBack_123 0 rfl ?_
                  refine v_aload_n (pc := 125) C dX12_comeBack_125 4 rfl rfl ?_
                  refine v_get (pc := 126) C (40, 0) (v := .ref (AL_51 (77, 0))) ck_40 rfl 39 (by decide) inX12 wd_1427 rfl rfl dX12_comeBack_126 ?_
                  refine v_iload_n (pc := 129) C dX12_comeBack_129 5 rfl rfl ?_
                  refine v_aald (pc := 130) C (77, 0) ck_77 rfl rfl (by (try simp only [Int32.le_iff_toInt_le, Int32.lt_iff_toInt_lt, ← Int32.toInt_inj, vp_in_iff, Int32.reduceToInt] at c_2 c_3 c_5 c_6 c_11 c_12 b_1 hq_51 hr_51 b_7 b_8 b_9 b_10 hu hg hf hl0 hl ⊢) <;> omega) (78, (u).toNatClampNeg) rfl dX12_comeBack_130 ?_
                  refine v_iload_n (pc := 131) C dX12_comeBack_131 2 rfl rfl ?_
                  refine v_iald (pc := 132) C (78, (u).toNatClampNeg) (v := (g 78 (u).toNatClampNeg i_51)) (ck_78 (g := q_51) (tn_lt (by (try simp only [Int32.le_iff_toInt_le, Int32.lt_iff_toInt_lt, ← Int32.toInt_inj, Int32.reduceToInt] at c_2 c_3 c_5 c_6 c_11 c_12 b_1 hq_51 hr_51 b_7 b_8 b_9 b_10 hu hg hf hl0 hl ⊢); omega))) (by (try simp only [Int32.le_iff_toInt_le, Int32.lt_iff_toInt_lt, ← Int32.toInt_inj, vp_in_iff, Int32.reduceToInt] at c_2 c_3 c_5 c_6 c_11 c_12 b_1 hq_51 hr_51 b_7 b_8 b_9 b_10 hu hg hf hl0 hl ⊢) <;> omega) ((congrArg (fun k => q_51 78 (u).toNatClampNeg k) (show (nI i_51 : Int32).toNatClampNeg = i_51 from (nI_clamp (by omega)))).trans (hF_51 _ _ _ (by decide) (by decide) (by decide) (by decide) (by decide) (by decide) (by decide) (by decide) (by decide) (by decide) (by decide) (by decide) (by decide) (by decide))) dX12_comeBack_132 ?_
                  have hpm := vPb_puts (B := B + i_51) (g := q_51) (x := ((g 76 (u).toNatClampNeg i_51) / 8)) (y := ((g 76 (u).toNatClampNeg i_51) - (g 76 (u).toNatClampNeg i_51) / 8 * 8)) (z := (g 78 (u).toNatClampNeg i_51)) (tn_lt (by omega)) h7_51 (by omega)
                  have hM := M_puts (B := B + i_51) (g := q_51) (x := ((g 76 (u).toNatClampNeg i_51) / 8)) (y := ((g 76 (u).toNatClampNeg i_51) - (g 76 (u).toNatClampNeg i_51) / 8 * 8)) (z := (g 78 (u).toNatClampNeg i_51)) h1_51 h2_51 h3_51 h7_51 (by omega)
                  have hpz : vPb (S_X12_puts q_51 (((g 76 (u).toNatClampNeg i_51) / 8)) (((g 76 (u).toNatClampNeg i_51) - (g 76 (u).toNatClampNeg i_51) / 8 * 8)) ((g 78 (u).toNatClampNeg i_51))) ≤ vPb (S_X12_comeBack g u) := by
                    rw [show S_X12_comeBack g u = (SL_X12_comeBack_51 g u n (i_51 + 1) ((x_51_2 + 1)) (S_X12_puts q_51 (((g 76 (u).toNatClampNeg i_51) / 8)) (((g 76 (u).toNatClampNeg i_51) - (g 76 (u).toNatClampNeg i_51) / 8 * 8)) ((g 78 (u).toNatClampNeg i_51)))) from (by rw [eS_51, SL_X12_comeBack_51, if_neg c_6, if_pos c_11, if_pos c_12])]
                    exact mono_cb h8 h9 hB _ _ _ _ (by simp only [Int32.le_iff_toInt_le, Int32.lt_iff_toInt_lt, ← Int32.toInt_inj] at c_2 c_3 c_5 c_6 c_11 c_12 b_1 hq_51 hr_51 b_7 b_8 b_9 b_10; omega) hM.1 hM.2.1 hM.2.2.1 hM.2.2.2
                  refine v_callV (pc := 133) C (40, 0) ck_40 rfl (c_X12_puts hG (g := q_51) (((g 76 (u).toNatClampNeg i_51) / 8)) (((g 76 (u).toNatClampNeg i_51) - (g 76 (u).toNatClampNeg i_51) / 8 * 8)) ((g 78 (u).toNatClampNeg i_51)) (by rw [show q_51 2 0 0 = g 2 0 0 from hF_51 _ _ _ (by decide) (by decide) (by decide) (by decide) (by decide) (by decide) (by decide) (by decide) (by decide) (by decide) (by decide) (by decide) (by decide) (by decide)]; exact hu0) (by rw [show q_51 2 0 0 = g 2 0 0 from hF_51 _ _ _ (by decide) (by decide) (by decide) (by decide) (by decide) (by decide) (by decide) (by decide) (by decide) (by decide) (by decide) (by decide) (by decide) (by decide)]; exact hu) (by rw [show q_51 3 0 0 = g 3 0 0 from hF_51 _ _ _ (by decide) (by decide) (by decide) (by decide) (by decide) (by decide) (by decide) (by decide) (by decide) (by decide) (by decide) (by decide) (by decide) (by decide)]; exact hg0) (by rw [show q_51 3 0 0 = g 3 0 0 from hF_51 _ _ _ (by decide) (by decide) (by decide) (by decide) (by decide) (by decide) (by decide) (by decide) (by decide) (by decide) (by decide) (by decide) (by decide) (by decide)]; exact hg) (by rw [show q_51 4 0 0 = g 4 0 0 from hF_51 _ _ _ (by decide) (by decide) (by decide) (by decide) (by decide) (by decide) (by decide) (by decide) (by decide) (by decide) (by decide) (by decide) (by decide) (by decide)]; exact hf0) (by rw [show q_51 4 0 0 = g 4 0 0 from hF_51 _ _ _ (by decide) (by decide) (by decide) (by decide) (by decide) (by decide) (by decide) (by decide) (by decide) (by decide) (by decide) (by decide) (by decide) (by decide)]; exact hf) (by (try simp only [Int32.le_iff_toInt_le, Int32.lt_iff_toInt_lt, ← Int32.toInt_inj, Int32.reduceToInt] at c_2 c_3 c_5 c_6 c_11 c_12 b_1 hq_51 hr_51 b_7 b_8 b_9 b_10 hu hg hf hl0 hl ⊢); omega) (by (try simp only [Int32.le_iff_toInt_le, Int32.lt_iff_toInt_lt, ← Int32.toInt_inj, Int32.reduceToInt] at c_2 c_3 c_5 c_6 c_11 c_12 b_1 hq_51 hr_51 b_7 b_8 b_9 b_10 hu hg hf hl0 hl ⊢); omega) (by (try simp only [Int32.le_iff_toInt_le, Int32.lt_iff_toInt_lt, ← Int32.toInt_inj, Int32.reduceToInt] at c_2 c_3 c_5 c_6 c_11 c_12 b_1 hq_51 hr_51 b_7 b_8 b_9 b_10 hu hg hf hl0 hl ⊢); omega) (by (try simp only [Int32.le_iff_toInt_le, Int32.lt_iff_toInt_lt, ← Int32.toInt_inj, Int32.reduceToInt] at c_2 c_3 c_5 c_6 c_11 c_12 b_1 hq_51 hr_51 b_7 b_8 b_9 b_10 hu hg hf hl0 hl ⊢); omega) h1_51 h2_51 h3_51 (B + i_51) h7_51 (by omega) hr hl_51.1 (by simp only [Int32.le_iff_toInt_le, Int32.lt_iff_toInt_lt, ← Int32.toInt_inj, Int32.reduceToInt] at c_2 c_3 c_5 c_6 c_11 c_12 b_1 hq_51 hr_51 b_7 b_8 b_9 b_10; omega)) 3 wd_1632 wd_68 wd_1629 wd_1631 wd_49 (by decide +kernel) (by decide) (by decide) rfl ([]) rfl (Nat.le_of_ble_eq_true rfl) ⟨by omega, by omega⟩ dX12_comeBack_133 (fun _ _ _ q => q.elim) (fun v9 A_13 h9 hR9 => ?_)
                  obtain ⟨rfl, hA_13, rfl⟩ := hR9
                  refine v_st (k2 := ((vPb q_51 - vPb g) + (vPb (S_X12_puts q_51 (((g 76 (u).toNatClampNeg i_51) / 8)) (((g 76 (u).toNatClampNeg i_51) - (g 76 (u).toNatClampNeg i_51) / 8 * 8)) ((g 78 (u).toNatClampNeg i_51))) - vPb q_51))) (n2 := ((2 * (vPb q_51 - vPb g)) + (2 * (vPb (S_X12_puts q_51 (((g 76 (u).toNatClampNeg i_51) / 8)) (((g 76 (u).toNatClampNeg i_51) - (g 76 (u).toNatClampNeg i_51) / 8 * 8)) ((g 78 (u).toNatClampNeg i_51))) - vPb q_51)))) (st2 := [.int ((V_X12_puts q_51 (((g 76 (u).toNatClampNeg i_51) / 8)) (((g 76 (u).toNatClampNeg i_51) - (g 76 (u).toNatClampNeg i_51) / 8 * 8)) ((g 78 (u).toNatClampNeg i_51))))]) rfl rfl rfl ?_
                  refine v_lve (lv2 := [(5, .int (((g 76 (u).toNatClampNeg i_51) - (g 76 (u).toNatClampNeg i_51) / 8 * 8))), (4, .int (((g 76 (u).toNatClampNeg i_51) / 8))), (3, .int (nI i_51)), (2, .int (x_51_2)), (0, .ref (A_13 (40, 0))), (1, .int (u))]) (by rw [(hA_13 (40, 0) (Or.inl (by show 40 < 59; decide)))]) ?_
                  refine v_pop (pc := 136) C dX12_comeBack_136 rfl ?_
                  refine v_iinc (v := (x_51_2 + 1)) (lv2 := [(2, .int ((x_51_2 + 1))), (5, .int (((g 76 (u).toNatClampNeg i_51) - (g 76 (u).toNatClampNeg i_51) / 8 * 8))), (4, .int (((g 76 (u).toNatClampNeg i_51) / 8))), (3, .int (nI i_51)), (0, .ref (A_13 (40, 0))), (1, .int (u))]) (pc := 137) C dX12_comeBack_137 3 rfl rfl (by decide) rfl ?_
                  refine v_goto (tgt := 170) (pc := 140) C dX12_comeBack_140 (by decide) ?_
                  refine v_iinc (v := nI (i_51 + 1)) (lv2 := [(3, .int (nI (i_51 + 1))), (2, .int ((x_51_2 + 1))), (5, .int (((g 76 (u).toNatClampNeg i_51) - (g 76 (u).toNatClampNeg i_51) / 8 * 8))), (4, .int (((g 76 (u).toNatClampNeg i_51) / 8))), (0, .ref (A_13 (40, 0))), (1, .int (u))]) (pc := 170) C dX12_comeBack_170 3 rfl (nI_1 _) (by decide) rfl ?_
                  refine v_goto (tgt := 51) (pc := 173) C dX12_comeBack_173 (by decide) ?_
                  refine v_lv (lv2 := [(3, .int (nI (i_51 + 1))), (2, .int ((x_51_2 + 1))), (0, .ref (A_13 (40, 0))), (1, .int (u))]) [0, 1, 4, 5] rfl ?_
                  refine v_widen (k2 := (vPb (S_X12_puts q_51 (((g 76 (u).toNatClampNeg i_51) / 8)) (((g 76 (u).toNatClampNeg i_51) - (g 76 (u).toNatClampNeg i_51) / 8 * 8)) ((g 78 (u).toNatClampNeg i_51))) - vPb g)) (n2 := (2 * (vPb (S_X12_puts q_51 (((g 76 (u).toNatClampNeg i_51) / 8)) (((g 76 (u).toNatClampNeg i_51) - (g 76 (u).toNatClampNeg i_51) / 8 * 8)) ((g 78 (u).toNatClampNeg i_51))) - vPb g))) (by omega) (by omega) ?_
                  exact ih A_13 (i_51 + 1) ((x_51_2 + 1)) (S_X12_puts q_51 (((g 76 (u).toNatClampNeg i_51) / 8)) (((g 76 (u).toNatClampNeg i_51) - (g 76 (u).toNatClampNeg i_51) / 8 * 8)) ((g 78 (u).toNatClampNeg i_51))) (by (try simp only [Int32.le_iff_toInt_le, Int32.lt_iff_toInt_lt, ← Int32.toInt_inj, vp_in_iff, Int32.reduceToInt] at c_2 c_3 c_5 c_6 c_11 c_12 b_1 hq_51 hr_51 b_7 b_8 b_9 b_10 hu hg hf hl0 hl ⊢) <;> omega) (by omega) (fun c i j h1 h11 h12 h13 h47 h56 h57 h59 h61 h63 h65 h67 h73 h82 => (F_X12_puts h11 h13 h56 h57 h59 h61 h63 h65 h67 h73).trans (hF_51 c i j h1 h11 h12 h13 h47 h56 h57 h59 h61 h63 h65 h67 h73 h82)) (vAs_t (vAs_w hA_13 (by decide) (by decide)) (vAs_w hv_51 (by decide) (by decide))) (by omega) (vM1_k (fun _ _ => F_X12_puts (by decide) (by decide) (by decide) (by decide) (by decide) (by decide) (by decide) (by decide) (by decide) (by decide)) h1_51) (M_puts h1_51 h2_51 h3_51 h7_51 (by omega)).2.1 (M_puts h1_51 h2_51 h3_51 h7_51 (by omega)).2.2.1 (vM7_le (by omega) (M_puts h1_51 h2_51 h3_51 h7_51 (by omega)).2.2.2) (by rw [show (S_X12_puts q_51 (((g 76 (u).toNatClampNeg i_51) / 8)) (((g 76 (u).toNatClampNeg i_51) - (g 76 (u).toNatClampNeg i_51) / 8 * 8)) ((g 78 (u).toNatClampNeg i_51))) 12 0 0 = (q_51 12 0 0) from F_X12_puts (by decide) (by decide) (by decide) (by decide) (by decide) (by decide) (by decide) (by decide) (by decide) (by decide)]; omega) (by rw [puts_11, i32_add1 (by omega)]; simp only [Int32.le_iff_toInt_le, Int32.lt_iff_toInt_lt, ← Int32.toInt_inj, Int32.reduceToInt] at c_2 c_3 c_5 c_6 c_11 c_12 b_1 hq_51 hr_51 b_7 b_8 b_9 b_10; omega) (by rw [eV_51, VL_X12_comeBack_51, if_neg c_6, if_pos c_11, if_pos c_12]) (by rw [eS_51, SL_X12_comeBack_51, if_neg c_6, if_pos c_11, if_pos c_12])
        refine v_widen (k2 := (vPb (s3 (s3 (S_X12_isWrong g (0)) 47 (u).toNatClampNeg 0 (0)) 12 0 0 (0)) - vPb g)) (n2 := (2 * (vPb (s3 (s3 (S_X12_isWrong g (0)) 47 (u).toNatClampNeg 0 (0)) 12 0 0 (0)) - vPb g))) (by omega) (by omega) ?_
        exact L_51 (10 + 1) A 0 (0) (s3 (s3 (S_X12_isWrong g (0)) 47 (u).toNatClampNeg 0 (0)) 12 0 0 (0)) (by omega) (by omega) (fun c i j h1 h11 h12 h13 h47 h56 h57 h59 h61 h63 h65 h67 h73 h82 => (s3_k h12).trans ((s3_k h47).trans (F_X12_isWrong h1))) vAs_r (Nat.le_of_eq (vPb_k (fun _ _ => (s3_k (by decide)).trans ((s3_k (by decide)).trans (F_X12_isWrong (by decide))))).symm) (vM1_k (fun _ _ => s3_k (by decide)) (vM1_k (fun _ _ => s3_k (by decide)) (vM1_k (fun _ _ => F_X12_isWrong (by decide)) h1))) (vM2_k (fun _ _ => s3_k (by decide)) (fun _ _ => s3_k (by decide)) (vM2_k (fun _ _ => s3_k (by decide)) (fun _ _ => s3_k (by decide)) (vM2_k (fun _ _ => F_X12_isWrong (by decide)) (fun _ _ => F_X12_isWrong (by decide)) h2))) (vM3_k (fun _ _ => s3_k (by decide)) (fun _ _ => s3_k (by decide)) (vM3_k (fun _ _ => s3_k (by decide)) (fun _ _ => s3_k (by decide)) (vM3_k (fun _ _ => F_X12_isWrong (by decide)) (fun _ _ => F_X12_isWrong (by decide)) h3))) (vM7_k (fun _ _ => s3_k (by decide)) (fun _ _ => s3_k (by decide)) (vM7_k (fun _ _ => s3_k (by decide)) (fun _ _ => s3_k (by decide)) (vM7_k (fun _ _ => F_X12_isWrong (by decide)) (fun _ _ => F_X12_isWrong (by decide)) h7))) (by rw [show (s3 (s3 (S_X12_isWrong g (0)) 47 (u).toNatClampNeg 0 (0)) 12 0 0 (0)) 12 0 0 = 0 from s3_s]; exact ⟨by decide, by decide⟩) (by rw [show (s3 (s3 (S_X12_isWrong g (0)) 47 (u).toNatClampNeg 0 (0)) 12 0 0 (0)) 11 0 0 = g 11 0 0 from (s3_k (by decide)).trans ((s3_k (by decide)).trans (F_X12_isWrong (by decide)))]; exact ⟨hl0, hl⟩) (by rw [V_X12_comeBack, if_neg c_2, if_neg c_3]) (by rw [S_X12_comeBack, if_neg c_2, if_neg c_3])
      · skip
        exact absurd c_5 (fun q9 => q9 ((show (0 : Int32) = 0 from rfl)))
  · skip
    refine v_iconst (v := 1) (pc := 9) C dX12_comeBack_9 rfl ?_
    refine v_goto (tgt := 27) (pc := 10) C dX12_comeBack_10 (by decide) ?_
    refine v_callV (pc := 27) C (40, 0) ck_40 rfl (c_X12_isWrong hG (g := g) (1) ) 1 wd_1531 wd_68 wd_1528 wd_1530 wd_35 (by decide +kernel) (by decide) (by decide) rfl ([]) rfl (Nat.le_of_ble_eq_true rfl) ⟨Nat.zero_le _, Nat.zero_le _⟩ dX12_comeBack_27 (fun _ _ _ q => q.elim) (fun v9 A9 h9 hR9 => ?_)
    obtain ⟨rfl, hA9, rfl⟩ := hR9
    obtain rfl := hA9.symm
    refine v_st (k2 := 0) (n2 := 0) (st2 := [.int ((V_X12_isWrong g (1)))]) rfl rfl rfl ?_
    refine v_if_eq (pc := 30) (tgt := 35) C dX12_comeBack_30 (by decide) (fun c_14 => ?_) (fun c_14 => ?_)
    · skip
      exact absurd c_14 (fun q9 => ((show ¬ (1 : Int32) = 0 from by decide)) q9)
    · skip
      refine v_iconst (v := 0) (pc := 33) C dX12_comeBack_33 rfl ?_
      exact v_iret (pc := 34) C (Nat.zero_le _) (Nat.zero_le _) dX12_comeBack_34 ⟨(congrArg (fun q => some (Value.int q)) (by show _ = _; rw [V_X12_comeBack, if_pos c_2])), vAs_r, (congrArg (fun q => wm q r) (by show _ = _; rw [S_X12_comeBack, if_pos c_2]))⟩
