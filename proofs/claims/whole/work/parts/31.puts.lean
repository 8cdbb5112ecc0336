
theorem M3_lays {g : vS} {x y z : Int32} (h2 : vM2 g) (h3 : vM3 g) : vM3 (S_X12_lays g x y z) := fun i p => by
  have a := h2 (x).toNatClampNeg
  have b := h3 i p
  unfold S_X12_lays
  rw [s3_k (by decide), s3_k (k' := 56) (by decide), s3_k (k' := 56) (by decide), s3_k (k' := 56) (by decide)]
  by_cases hi : i = (x).toNatClampNeg
  · subst hi
    by_cases hp : p = (y).toNatClampNeg
    · subst hp; rw [s3_s]; omega
    · rw [s3_j hp, s3_k (by decide)]; exact b
  · rw [s3_i hi, s3_k (by decide)]; exact b
theorem ok_cannot {g : vS} {u x y : Int32} : 0 ≤ (V_X12_cannotWrite g u x y).toInt ∧ (¬ (V_X12_cannotWrite g u x y).toInt = 0 ∨ ¬ (g 11 0 0).toInt = 300) := by
  have k : ∀ v : Int32, v = 3 ∨ v = 4 → 0 ≤ v.toInt ∧ (¬ v.toInt = 0 ∨ ¬ (g 11 0 0).toInt = 300) := fun v h => by rcases h with rfl | rfl <;> exact ⟨by decide, Or.inl (by decide)⟩
  have f := ok_isFull (g := g)
  unfold V_X12_cannotWrite
  (repeat' split) <;> first
    | exact k _ (Or.inl rfl)
    | exact k _ (Or.inr rfl)
    | (rename_i a; exact ⟨by decide, Or.inr (f.resolve_left (fun q => q (by rw [a]; decide)))⟩)
theorem ok_isw {g : vS} {v : Int32} : ¬ (V_X12_isWrong g v).toInt = 0 ∨ v.toInt ≤ 0 := by
  unfold V_X12_isWrong
  split <;> first
    | exact Or.inl (show ¬ (1 : Int32).toInt = 0 by decide)
    | (right; rename_i a; simp only [Int32.lt_iff_toInt_lt, Int32.le_iff_toInt_le, Int32.reduceToInt] at a; omega)

def V_X12_puts (g : vS) (x : Int32) (y : Int32) (z : Int32) : Int32 := (if (g 59 (x).toNatClampNeg ((g 56 (x).toNatClampNeg 0)).toNatClampNeg) = (g 50 ((g 55 (x).toNatClampNeg 0)).toNatClampNeg 0) then (g 56 (x).toNatClampNeg 0) else ((S_X12_turns g (x)) 56 (x).toNatClampNeg 0))
def S_X12_puts (g : vS) (x : Int32) (y : Int32) (z : Int32) : vS := (if (g 59 (x).toNatClampNeg ((g 56 (x).toNatClampNeg 0)).toNatClampNeg) = (g 50 ((g 55 (x).toNatClampNeg 0)).toNatClampNeg 0) then (S_X12_adds (s3 (S_X12_lays (s3 g 63 (x).toNatClampNeg (y).toNatClampNeg (((g 63 (x).toNatClampNeg (y).toNatClampNeg) + 1))) (x) (y) (z)) 57 (x).toNatClampNeg 0 ((V_X12_markOf (S_X12_lays (s3 g 63 (x).toNatClampNeg (y).toNatClampNeg (((g 63 (x).toNatClampNeg (y).toNatClampNeg) + 1))) (x) (y) (z)) (x)))) (pMix (((8 * x) + y)) (((S_X12_lays (s3 g 63 (x).toNatClampNeg (y).toNatClampNeg (((g 63 (x).toNatClampNeg (y).toNatClampNeg) + 1))) (x) (y) (z)) 65 (x).toNatClampNeg (y).toNatClampNeg)))) else (S_X12_adds (s3 (S_X12_lays (s3 (S_X12_turns g (x)) 63 (x).toNatClampNeg (y).toNatClampNeg (((g 63 (x).toNatClampNeg (y).toNatClampNeg) + 1))) (x) (y) (z)) 57 (x).toNatClampNeg 0 ((V_X12_markOf (S_X12_lays (s3 (S_X12_turns g (x)) 63 (x).toNatClampNeg (y).toNatClampNeg (((g 63 (x).toNatClampNeg (y).toNatClampNeg) + 1))) (x) (y) (z)) (x)))) (pMix (((8 * x) + y)) (((S_X12_lays (s3 (S_X12_turns g (x)) 63 (x).toNatClampNeg (y).toNatClampNeg (((g 63 (x).toNatClampNeg (y).toNatClampNeg) + 1))) (x) (y) (z)) 65 (x).toNatClampNeg (y).toNatClampNeg)))))
theorem F_X12_puts {g : vS} {x : Int32} {y : Int32} {z : Int32} {c i j : Nat} (h11 : c ≠ 11) (h13 : c ≠ 13) (h56 : c ≠ 56) (h57 : c ≠ 57) (h59 : c ≠ 59) (h61 : c ≠ 61) (h63 : c ≠ 63) (h65 : c ≠ 65) (h67 : c ≠ 67) (h73 : c ≠ 73) : S_X12_puts g x y z c i j = g c i j := by
  unfold S_X12_puts
  (repeat' split) <;> first | rfl | ((simp only [s3_k h11, s3_k h13, s3_k h56, s3_k h57, s3_k h59, s3_k h61, s3_k h63, s3_k h65, s3_k h67, s3_k h73, F_X12_adds h11 h73, F_X12_lays h61 h65 h67, F_X12_turns h13 h56 h59]) <;> first | done | rfl)

theorem vPb_puts1 {g : vS} {x y z : Int32} (c : ¬ ((g 59 (x).toNatClampNeg ((g 56 (x).toNatClampNeg 0)).toNatClampNeg) = (g 50 ((g 55 (x).toNatClampNeg 0)).toNatClampNeg 0))) : vPb (S_X12_puts g x y z) = vPb (S_X12_turns g x) := by
  unfold S_X12_puts
  rw [if_neg c]
  exact vPb_k (fun i j => (F_X12_adds (by decide) (by decide)).trans ((s3_k (by decide)).trans ((F_X12_lays (by decide) (by decide) (by decide)).trans (s3_k (by decide)))))
theorem vPb_puts0 {g : vS} {x y z : Int32} (c : (g 59 (x).toNatClampNeg ((g 56 (x).toNatClampNeg 0)).toNatClampNeg) = (g 50 ((g 55 (x).toNatClampNeg 0)).toNatClampNeg 0)) : vPb (S_X12_puts g x y z) = vPb g := by
  unfold S_X12_puts
  rw [if_pos c]
  exact vPb_k (fun i j => (F_X12_adds (by decide) (by decide)).trans ((s3_k (by decide)).trans ((F_X12_lays (by decide) (by decide) (by decide)).trans (s3_k (by decide)))))
theorem vPb_puts {B : Nat} {g : vS} {x y z : Int32} (hx : (x).toNatClampNeg < 20) (h7 : vM7 B g) (hB : B ≤ 20000) : vPb g ≤ vPb (S_X12_puts g x y z) := by
  by_cases c : ((g 59 (x).toNatClampNeg ((g 56 (x).toNatClampNeg 0)).toNatClampNeg) = (g 50 ((g 55 (x).toNatClampNeg 0)).toNatClampNeg 0))
  · rw [vPb_puts0 c]; omega
  · rw [vPb_puts1 c]; exact vPb_turns hx (by have := (h7 (x).toNatClampNeg).2; omega)
theorem M_puts {B : Nat} {g : vS} {x y z : Int32} (h1 : vM1 g) (h2 : vM2 g) (h3 : vM3 g) (h7 : vM7 B g) (hB : B ≤ 20000) : vM1 (S_X12_puts g x y z) ∧ vM2 (S_X12_puts g x y z) ∧ vM3 (S_X12_puts g x y z) ∧ vM7 (B + 1) (S_X12_puts g x y z) := by
  have hL : (g 13 (x).toNatClampNeg 0).toNatClampNeg ≤ 100000 := by have := (h7 (x).toNatClampNeg).2; omega
  have hT := M2_turns (x := x) h2 h7 hB
  have h3T := M3_turns (x := x) h2 h3 hL
  have h1T : vM1 (S_X12_turns g x) := vM1_k (fun i j => F_X12_turns (by decide) (by decide) (by decide)) h1
  have K : ∀ (G : vS) (a b c : Int32), vM1 G → vM2 G → vM3 G → vM7 (B + 1) G → vM1 (S_X12_adds (s3 (S_X12_lays (s3 G 63 (x).toNatClampNeg (y).toNatClampNeg a) x y z) 57 (x).toNatClampNeg 0 b) c) ∧ vM2 (S_X12_adds (s3 (S_X12_lays (s3 G 63 (x).toNatClampNeg (y).toNatClampNeg a) x y z) 57 (x).toNatClampNeg 0 b) c) ∧ vM3 (S_X12_adds (s3 (S_X12_lays (s3 G 63 (x).toNatClampNeg (y).toNatClampNeg a) x y z) 57 (x).toNatClampNeg 0 b) c) ∧ vM7 (B + 1) (S_X12_adds (s3 (S_X12_lays (s3 G 63 (x).toNatClampNeg (y).toNatClampNeg a) x y z) 57 (x).toNatClampNeg 0 b) c) := by
    intro G a b c k1 k2 k3 k7
    have e : ∀ c9 i j : Nat, c9 ≠ 11 → c9 ≠ 73 → c9 ≠ 57 → c9 ≠ 61 → c9 ≠ 65 → c9 ≠ 67 → c9 ≠ 63 → S_X12_adds (s3 (S_X12_lays (s3 G 63 (x).toNatClampNeg (y).toNatClampNeg a) x y z) 57 (x).toNatClampNeg 0 b) c c9 i j = G c9 i j := fun c9 i j q1 q2 q3 q4 q5 q6 q7 => (F_X12_adds q1 q2).trans ((s3_k q3).trans ((F_X12_lays q4 q5 q6).trans (s3_k q7)))
    have l3 : vM3 (S_X12_lays (s3 G 63 (x).toNatClampNeg (y).toNatClampNeg a) x y z) := M3_lays (vM2_k (fun _ _ => s3_k (by decide)) (fun _ _ => s3_k (by decide)) k2) (vM3_k (fun _ _ => s3_k (by decide)) (fun _ _ => s3_k (by decide)) k3)
    refine ⟨vM1_k (fun i j => e 55 i j (by decide) (by decide) (by decide) (by decide) (by decide) (by decide) (by decide)) k1, vM2_k (fun i j => e 56 i j (by decide) (by decide) (by decide) (by decide) (by decide) (by decide) (by decide)) (fun i j => e 13 i j (by decide) (by decide) (by decide) (by decide) (by decide) (by decide) (by decide)) k2, ?_, vM7_k (fun i j => e 56 i j (by decide) (by decide) (by decide) (by decide) (by decide) (by decide) (by decide)) (fun i j => e 13 i j (by decide) (by decide) (by decide) (by decide) (by decide) (by decide) (by decide)) k7⟩
    exact vM3_k (fun i j => (F_X12_adds (by decide) (by decide)).trans (s3_k (by decide))) (fun i j => (F_X12_adds (by decide) (by decide)).trans (s3_k (by decide))) l3
  unfold S_X12_puts
  split
  · exact K _ _ _ _ h1 h2 h3 (vM7_le (by omega) h7)
  · exact K _ _ _ _ h1T hT.1 h3T hT.2

set_option maxHeartbeats 4000000 in
set_option maxRecDepth 100000 in
theorem c_X12_puts {G : vG} (hG : G.1.stackTraces = false) {A : vN → Nat} {g : vS} {r : vH} (x : Int32) (y : Int32) (z : Int32) (hu0 : 0 ≤ (g 2 0 0).toInt) (hu : (g 2 0 0).toInt ≤ 6) (hg0 : 0 ≤ (g 3 0 0).toInt) (hg : (g 3 0 0).toInt ≤ 5) (hf0 : 0 ≤ (g 4 0 0).toInt) (hf : (g 4 0 0).toInt ≤ 20) (x_0 : 0 ≤ (x).toInt) (x_N : (x).toInt < 20) (y_0 : 0 ≤ (y).toInt) (y_N : (y).toInt < 8) (h1 : vM1 g) (h2 : vM2 g) (h3 : vM3 g) (B : Nat) (h7 : vM7 B g) (hB : B ≤ 20000) (hr : vNq r) (hl0 : 0 ≤ (g 11 0 0).toInt) (hl9 : (g 11 0 0).toInt < 300) : vCt G yX12_puts cX12_puts 4 (some .int) 4 [.ref (A (40, 0)), .int (x), .int (y), .int (z)] A (wm g r) (fun v A2 h2 => v = some (.int (V_X12_puts g x y z)) ∧ vAs 59 59 A2 A ∧ h2 = wm (S_X12_puts g x y z) r) (vNoX) (vPb (S_X12_puts g x y z) - vPb g) (2 * (vPb (S_X12_puts g x y z) - vPb g)) := by
  refine v_of hG (by decide +kernel) (Nat.le_of_ble_eq_true rfl) (lv := [(0, .ref (A (40, 0))), (1, .int (x)), (2, .int (y)), (3, .int (z))]) rfl (fun X C hnx => ?_)
  have C : vC G X cX12_puts 4 RX12 (some .int) "puts" 4 (vPb (S_X12_puts g x y z) - vPb g) (2 * (vPb (S_X12_puts g x y z) - vPb g)) := C
  refine v_aload_n (pc := 0) C dX12_puts_0 0 rfl rfl ?_
  refine v_get (pc := 1) C (40, 0) (v := .ref (A (58, 0))) ck_40 rfl 18 (by decide) inX12 wd_1406 rfl rfl dX12_puts_1 ?_
  refine v_iload_n (pc := 4) C dX12_puts_4 1 rfl rfl ?_
  refine v_aald (pc := 5) C (58, 0) ck_58 rfl rfl (by (try simp only [Int32.le_iff_toInt_le, Int32.lt_iff_toInt_lt, ← Int32.toInt_inj, vp_in_iff, Int32.reduceToInt] at hu hg hf x_0 x_N y_0 y_N hl0 hl9 ⊢) <;> omega) (59, (x).toNatClampNeg) rfl dX12_puts_5 ?_
  refine v_aload_n (pc := 6) C dX12_puts_6 0 rfl rfl ?_
  refine v_get (pc := 7) C (40, 0) (v := .ref (A (56, 0))) ck_40 rfl 16 (by decide) inX12 wd_1404 rfl rfl dX12_puts_7 ?_
  refine v_iload_n (pc := 10) C dX12_puts_10 1 rfl rfl ?_
  refine v_iald (pc := 11) C (56, 0) (v := (g 56 (x).toNatClampNeg 0)) ck_56 (by (try simp only [Int32.le_iff_toInt_le, Int32.lt_iff_toInt_lt, ← Int32.toInt_inj, vp_in_iff, Int32.reduceToInt] at hu hg hf x_0 x_N y_0 y_N hl0 hl9 ⊢) <;> omega) rfl dX12_puts_11 ?_
  have b_1 := h2 (x).toNatClampNeg
  refine v_iald (pc := 12) C (59, (x).toNatClampNeg) (v := (g 59 (x).toNatClampNeg ((g 56 (x).toNatClampNeg 0)).toNatClampNeg)) (ck_59 (g := g) (tn_lt (by (try simp only [Int32.le_iff_toInt_le, Int32.lt_iff_toInt_lt, ← Int32.toInt_inj, Int32.reduceToInt] at b_1 hu hg hf x_0 x_N y_0 y_N hl0 hl9 ⊢); omega))) (by (try simp only [Int32.le_iff_toInt_le, Int32.lt_iff_toInt_lt, ← Int32.toInt_inj, vp_in_iff, Int32.reduceToInt] at b_1 hu hg hf x_0 x_N y_0 y_N hl0 hl9 ⊢) <;> omega) rfl dX12_puts_12 ?_
  refine v_aload_n (pc := 13) C dX12_puts_13 0 rfl rfl ?_
  refine v_get (pc := 14) C (40, 0) (v := .ref (A (50, 0))) ck_40 rfl 10 (by decide) inX12 wd_1398 rfl rfl dX12_puts_14 ?_
  refine v_aload_n (pc := 17) C dX12_puts_17 0 rfl rfl ?_
  refine v_get (pc := 18) C (40, 0) (v := .ref (A (55, 0))) ck_40 rfl 15 (by decide) inX12 wd_1403 rfl rfl dX12_puts_18 ?_
  refine v_iload_n (pc := 21) C dX12_puts_21 1 rfl rfl ?_
  refine v_iald (pc := 22) C (55, 0) (v := (g 55 (x).toNatClampNeg 0)) ck_55 (by (try simp only [Int32.le_iff_toInt_le, Int32.lt_iff_toInt_lt, ← Int32.toInt_inj, vp_in_iff, Int32.reduceToInt] at b_1 hu hg hf x_0 x_N y_0 y_N hl0 hl9 ⊢) <;> omega) rfl dX12_puts_22 ?_
  have b_2 := h1 (x).toNatClampNeg
  refine v_iald (pc := 23) C (50, 0) (v := (g 50 ((g 55 (x).toNatClampNeg 0)).toNatClampNeg 0)) ck_50 (by (try simp only [Int32.le_iff_toInt_le, Int32.lt_iff_toInt_lt, ← Int32.toInt_inj, vp_in_iff, Int32.reduceToInt] at b_1 b_2 hu hg hf x_0 x_N y_0 y_N hl0 hl9 ⊢) <;> omega) rfl dX12_puts_23 ?_
  refine v_icmp_eq (pc := 24) (tgt := 32) C dX12_puts_24 (by decide) (fun c_3 => ?_) (fun c_3 => ?_)
  · skip
    refine v_aload_n (pc := 32) C dX12_puts_32 0 rfl rfl ?_
    refine v_get (pc := 33) C (40, 0) (v := .ref (A (62, 0))) ck_40 rfl 20 (by decide) inX12 wd_1408 rfl rfl dX12_puts_33 ?_
    refine v_iload_n (pc := 36) C dX12_puts_36 1 rfl rfl ?_
    refine v_aald (pc := 37) C (62, 0) ck_62 rfl rfl (by (try simp only [Int32.le_iff_toInt_le, Int32.lt_iff_toInt_lt, ← Int32.toInt_inj, vp_in_iff, Int32.reduceToInt] at c_3 b_1 b_2 hu hg hf x_0 x_N y_0 y_N hl0 hl9 ⊢) <;> omega) (63, (x).toNatClampNeg) rfl dX12_puts_37 ?_
    refine v_iload_n (pc := 38) C dX12_puts_38 2 rfl rfl ?_
    refine v_dup2_11 (pc := 39) C dX12_puts_39 rfl rfl ?_
    refine v_iald (pc := 40) C (63, (x).toNatClampNeg) (v := (g 63 (x).toNatClampNeg (y).toNatClampNeg)) (ck_63 (g := g) (tn_lt (by (try simp only [Int32.le_iff_toInt_le, Int32.lt_iff_toInt_lt, ← Int32.toInt_inj, Int32.reduceToInt] at c_3 b_1 b_2 hu hg hf x_0 x_N y_0 y_N hl0 hl9 ⊢); omega))) (by (try simp only [Int32.le_iff_toInt_le, Int32.lt_iff_toInt_lt, ← Int32.toInt_inj, vp_in_iff, Int32.reduceToInt] at c_3 b_1 b_2 hu hg hf x_0 x_N y_0 y_N hl0 hl9 ⊢) <;> omega) rfl dX12_puts_40 ?_
    refine v_iconst (v := 1) (pc := 41) C dX12_puts_41 rfl ?_
    refine v_iadd (pc := 42) C dX12_puts_42 ?_
    refine v_iast (pc := 43) C (63, (x).toNatClampNeg) (x := ((g 63 (x).toNatClampNeg (y).toNatClampNeg) + 1)) (ck_63 (g := g) (tn_lt (by (try simp only [Int32.le_iff_toInt_le, Int32.lt_iff_toInt_lt, ← Int32.toInt_inj, Int32.reduceToInt] at c_3 b_1 b_2 hu hg hf x_0 x_N y_0 y_N hl0 hl9 ⊢); omega))) (by (try simp only [Int32.le_iff_toInt_le, Int32.lt_iff_toInt_lt, ← Int32.toInt_inj, vp_in_iff, Int32.reduceToInt] at c_3 b_1 b_2 hu hg hf x_0 x_N y_0 y_N hl0 hl9 ⊢) <;> omega) dX12_puts_43 ?_
    refine v_h (h2 := (wm (s3 g 63 (x).toNatClampNeg (y).toNatClampNeg (((g 63 (x).toNatClampNeg (y).toNatClampNeg) + 1))) r)) (u_63_a (g := g) (tn_lt (by (try simp only [Int32.le_iff_toInt_le, Int32.lt_iff_toInt_lt, ← Int32.toInt_inj, Int32.reduceToInt] at c_3 b_1 b_2 hu hg hf x_0 x_N y_0 y_N hl0 hl9 ⊢); omega))) ?_
    refine v_aload_n (pc := 44) C dX12_puts_44 0 rfl rfl ?_
    refine v_iload_n (pc := 45) C dX12_puts_45 1 rfl rfl ?_
    refine v_iload_n (pc := 46) C dX12_puts_46 2 rfl rfl ?_
    refine v_iload_n (pc := 47) C dX12_puts_47 3 rfl rfl ?_
    refine v_callV (pc := 48) C (40, 0) ck_40 rfl (c_X12_lays hG (g := (s3 g 63 (x).toNatClampNeg (y).toNatClampNeg (((g 63 (x).toNatClampNeg (y).toNatClampNeg) + 1)))) (x) (y) (z) hu0 hu hg0 hg hf0 hf (by (try simp only [Int32.le_iff_toInt_le, Int32.lt_iff_toInt_lt, ← Int32.toInt_inj, Int32.reduceToInt] at c_3 b_1 b_2 hu hg hf x_0 x_N y_0 y_N hl0 hl9 ⊢); omega) (by (try simp only [Int32.le_iff_toInt_le, Int32.lt_iff_toInt_lt, ← Int32.toInt_inj, Int32.reduceToInt] at c_3 b_1 b_2 hu hg hf x_0 x_N y_0 y_N hl0 hl9 ⊢); omega) (by (try simp only [Int32.le_iff_toInt_le, Int32.lt_iff_toInt_lt, ← Int32.toInt_inj, Int32.reduceToInt] at c_3 b_1 b_2 hu hg hf x_0 x_N y_0 y_N hl0 hl9 ⊢); omega) (by (try simp only [Int32.le_iff_toInt_le, Int32.lt_iff_toInt_lt, ← Int32.toInt_inj, Int32.reduceToInt] at c_3 b_1 b_2 hu hg hf x_0 x_N y_0 y_N hl0 hl9 ⊢); omega)) 3 wd_1582 wd_68 wd_1579 wd_1581 wd_43 (by decide +kernel) (by decide) (by decide) rfl ([]) rfl (Nat.le_of_ble_eq_true rfl) ⟨Nat.zero_le _, Nat.zero_le _⟩ dX12_puts_48 (fun _ _ _ q => q.elim) (fun v9 A9 h9 hR9 => ?_)
    obtain ⟨rfl, hA9, rfl⟩ := hR9
    obtain rfl := hA9.symm
    refine v_st (k2 := 0) (n2 := 0) (st2 := []) rfl rfl rfl ?_
    refine v_aload_n (pc := 51) C dX12_puts_51 0 rfl rfl ?_
    refine v_get (pc := 52) C (40, 0) (v := .ref (A (57, 0))) ck_40 rfl 17 (by decide) inX12 wd_1405 rfl rfl dX12_puts_52 ?_
    refine v_iload_n (pc := 55) C dX12_puts_55 1 rfl rfl ?_
    refine v_aload_n (pc := 56) C dX12_puts_56 0 rfl rfl ?_
    refine v_iload_n (pc := 57) C dX12_puts_57 1 rfl rfl ?_
    refine v_callV (pc := 58) C (40, 0) ck_40 rfl (c_X12_markOf hG (g := (S_X12_lays (s3 g 63 (x).toNatClampNeg (y).toNatClampNeg (((g 63 (x).toNatClampNeg (y).toNatClampNeg) + 1))) (x) (y) (z))) (x) (by rw [show (S_X12_lays (s3 g 63 (x).toNatClampNeg (y).toNatClampNeg (((g 63 (x).toNatClampNeg (y).toNatClampNeg) + 1))) (x) (y) (z)) 2 0 0 = g 2 0 0 from (F_X12_lays (by decide) (by decide) (by decide)).trans (s3_k (by decide))]; exact hu0) (by rw [show (S_X12_lays (s3 g 63 (x).toNatClampNeg (y).toNatClampNeg (((g 63 (x).toNatClampNeg (y).toNatClampNeg) + 1))) (x) (y) (z)) 2 0 0 = g 2 0 0 from (F_X12_lays (by decide) (by decide) (by decide)).trans (s3_k (by decide))]; exact hu) (by rw [show (S_X12_lays (s3 g 63 (x).toNatClampNeg (y).toNatClampNeg (((g 63 (x).toNatClampNeg (y).toNatClampNeg) + 1))) (x) (y) (z)) 3 0 0 = g 3 0 0 from (F_X12_lays (by decide) (by decide) (by decide)).trans (s3_k (by decide))]; exact hg0) (by rw [show (S_X12_lays (s3 g 63 (x).toNatClampNeg (y).toNatClampNeg (((g 63 (x).toNatClampNeg (y).toNatClampNeg) + 1))) (x) (y) (z)) 3 0 0 = g 3 0 0 from (F_X12_lays (by decide) (by decide) (by decide)).trans (s3_k (by decide))]; exact hg) (by rw [show (S_X12_lays (s3 g 63 (x).toNatClampNeg (y).toNatClampNeg (((g 63 (x).toNatClampNeg (y).toNatClampNeg) + 1))) (x) (y) (z)) 4 0 0 = g 4 0 0 from (F_X12_lays (by decide) (by decide) (by decide)).trans (s3_k (by decide))]; exact hf0) (by rw [show (S_X12_lays (s3 g 63 (x).toNatClampNeg (y).toNatClampNeg (((g 63 (x).toNatClampNeg (y).toNatClampNeg) + 1))) (x) (y) (z)) 4 0 0 = g 4 0 0 from (F_X12_lays (by decide) (by decide) (by decide)).trans (s3_k (by decide))]; exact hf) (by (try simp only [Int32.le_iff_toInt_le, Int32.lt_iff_toInt_lt, ← Int32.toInt_inj, Int32.reduceToInt] at c_3 b_1 b_2 hu hg hf x_0 x_N y_0 y_N hl0 hl9 ⊢); omega) (by (try simp only [Int32.le_iff_toInt_le, Int32.lt_iff_toInt_lt, ← Int32.toInt_inj, Int32.reduceToInt] at c_3 b_1 b_2 hu hg hf x_0 x_N y_0 y_N hl0 hl9 ⊢); omega)) 1 wd_1574 wd_68 wd_1571 wd_1573 wd_41 (by decide +kernel) (by decide) (by decide) rfl ([.int (x), .ref (A (57, 0))]) rfl (Nat.le_of_ble_eq_true rfl) ⟨Nat.zero_le _, Nat.zero_le _⟩ dX12_puts_58 (fun _ _ _ q => q.elim) (fun v9 A9 h9 hR9 => ?_)
    obtain ⟨rfl, hA9, rfl⟩ := hR9
    obtain rfl := hA9.symm
    refine v_st (k2 := 0) (n2 := 0) (st2 := [.int ((V_X12_markOf (S_X12_lays (s3 g 63 (x).toNatClampNeg (y).toNatClampNeg (((g 63 (x).toNatClampNeg (y).toNatClampNeg) + 1))) (x) (y) (z)) (x))), .int (x), .ref (A (57, 0))]) rfl rfl rfl ?_
    refine v_iast (pc := 61) C (57, 0) (x := (V_X12_markOf (S_X12_lays (s3 g 63 (x).toNatClampNeg (y).toNatClampNeg (((g 63 (x).toNatClampNeg (y).toNatClampNeg) + 1))) (x) (y) (z)) (x))) ck_57 (by (try simp only [Int32.le_iff_toInt_le, Int32.lt_iff_toInt_lt, ← Int32.toInt_inj, vp_in_iff, Int32.reduceToInt] at c_3 b_1 b_2 hu hg hf x_0 x_N y_0 y_N hl0 hl9 ⊢) <;> omega) dX12_puts_61 ?_
    refine v_h (h2 := (wm (s3 (S_X12_lays (s3 g 63 (x).toNatClampNeg (y).toNatClampNeg (((g 63 (x).toNatClampNeg (y).toNatClampNeg) + 1))) (x) (y) (z)) 57 (x).toNatClampNeg 0 ((V_X12_markOf (S_X12_lays (s3 g 63 (x).toNatClampNeg (y).toNatClampNeg (((g 63 (x).toNatClampNeg (y).toNatClampNeg) + 1))) (x) (y) (z)) (x)))) r)) (u_57_a) ?_
    refine v_aload_n (pc := 62) C dX12_puts_62 0 rfl rfl ?_
    refine v_bipush (v := 8) (pc := 63) C dX12_puts_63 (by decide) ?_
    refine v_iload_n (pc := 65) C dX12_puts_65 1 rfl rfl ?_
    refine v_imul (pc := 66) C dX12_puts_66 ?_
    refine v_iload_n (pc := 67) C dX12_puts_67 2 rfl rfl ?_
    refine v_iadd (pc := 68) C dX12_puts_68 ?_
    refine v_aload_n (pc := 69) C dX12_puts_69 0 rfl rfl ?_
    refine v_get (pc := 70) C (40, 0) (v := .ref (A (64, 0))) ck_40 rfl 21 (by decide) inX12 wd_1409 rfl rfl dX12_puts_70 ?_
    refine v_iload_n (pc := 73) C dX12_puts_73 1 rfl rfl ?_
    refine v_aald (pc := 74) C (64, 0) ck_64 rfl rfl (by (try simp only [Int32.le_iff_toInt_le, Int32.lt_iff_toInt_lt, ← Int32.toInt_inj, vp_in_iff, Int32.reduceToInt] at c_3 b_1 b_2 hu hg hf x_0 x_N y_0 y_N hl0 hl9 ⊢) <;> omega) (65, (x).toNatClampNeg) rfl dX12_puts_74 ?_
    refine v_iload_n (pc := 75) C dX12_puts_75 2 rfl rfl ?_
    refine v_iald (pc := 76) C (65, (x).toNatClampNeg) (v := ((S_X12_lays (s3 g 63 (x).toNatClampNeg (y).toNatClampNeg (((g 63 (x).toNatClampNeg (y).toNatClampNeg) + 1))) (x) (y) (z)) 65 (x).toNatClampNeg (y).toNatClampNeg)) (ck_65 (g := (s3 (S_X12_lays (s3 g 63 (x).toNatClampNeg (y).toNatClampNeg (((g 63 (x).toNatClampNeg (y).toNatClampNeg) + 1))) (x) (y) (z)) 57 (x).toNatClampNeg 0 ((V_X12_markOf (S_X12_lays (s3 g 63 (x).toNatClampNeg (y).toNatClampNeg (((g 63 (x).toNatClampNeg (y).toNatClampNeg) + 1))) (x) (y) (z)) (x))))) (tn_lt (by (try simp only [Int32.le_iff_toInt_le, Int32.lt_iff_toInt_lt, ← Int32.toInt_inj, Int32.reduceToInt] at c_3 b_1 b_2 hu hg hf x_0 x_N y_0 y_N hl0 hl9 ⊢); omega))) (by (try simp only [Int32.le_iff_toInt_le, Int32.lt_iff_toInt_lt, ← Int32.toInt_inj, vp_in_iff, Int32.reduceToInt] at c_3 b_1 b_2 hu hg hf x_0 x_N y_0 y_N hl0 hl9 ⊢) <;> omega) rfl dX12_puts_76 ?_
    refine v_callS (pc := 77) C (c_X12_mix hG (((8 * x) + y)) (((S_X12_lays (s3 g 63 (x).toNatClampNeg (y).toNatClampNeg (((g 63 (x).toNatClampNeg (y).toNatClampNeg) + 1))) (x) (y) (z)) 65 (x).toNatClampNeg (y).toNatClampNeg))) 2 wd_1554 wd_68 wd_1552 wd_1553 (by decide +kernel) (by decide) (by decide) rfl ([.ref (A (40, 0))]) rfl (Nat.le_of_ble_eq_true rfl) ⟨Nat.zero_le _, Nat.zero_le _⟩ dX12_puts_77 (fun _ _ _ q => q.elim) (fun v9 A9 h9 hR9 => ?_)
    obtain ⟨rfl, hA9, rfl⟩ := hR9
    obtain rfl := hA9.symm
    refine v_st (k2 := 0) (n2 := 0) (st2 := [.int (pMix (((8 * x) + y)) (((S_X12_lays (s3 g 63 (x).toNatClampNeg (y).toNatClampNeg (((g 63 (x).toNatClampNeg (y).toNatClampNeg) + 1))) (x) (y) (z)) 65 (x).toNatClampNeg (y).toNatClampNeg))), .ref (A (40, 0))]) rfl rfl rfl ?_
    refine v_callV (pc := 80) C (40, 0) ck_40 rfl (c_X12_adds hG (g := (s3 (S_X12_lays (s3 g 63 (x).toNatClampNeg (y).toNatClampNeg (((g 63 (x).toNatClampNeg (y).toNatClampNeg) + 1))) (x) (y) (z)) 57 (x).toNatClampNeg 0 ((V_X12_markOf (S_X12_lays (s3 g 63 (x).toNatClampNeg (y).toNatClampNeg (((g 63 (x).toNatClampNeg (y).toNatClampNeg) + 1))) (x) (y) (z)) (x))))) (pMix (((8 * x) + y)) (((S_X12_lays (s3 g 63 (x).toNatClampNeg (y).toNatClampNeg (((g 63 (x).toNatClampNeg (y).toNatClampNeg) + 1))) (x) (y) (z)) 65 (x).toNatClampNeg (y).toNatClampNeg))) (by rw [show (s3 (S_X12_lays (s3 g 63 (x).toNatClampNeg (y).toNatClampNeg (((g 63 (x).toNatClampNeg (y).toNatClampNeg) + 1))) (x) (y) (z)) 57 (x).toNatClampNeg 0 ((V_X12_markOf (S_X12_lays (s3 g 63 (x).toNatClampNeg (y).toNatClampNeg (((g 63 (x).toNatClampNeg (y).toNatClampNeg) + 1))) (x) (y) (z)) (x)))) 2 0 0 = g 2 0 0 from (s3_k (by decide)).trans ((F_X12_lays (by decide) (by decide) (by decide)).trans (s3_k (by decide)))]; exact hu0) (by rw [show (s3 (S_X12_lays (s3 g 63 (x).toNatClampNeg (y).toNatClampNeg (((g 63 (x).toNatClampNeg (y).toNatClampNeg) + 1))) (x) (y) (z)) 57 (x).toNatClampNeg 0 ((V_X12_markOf (S_X12_lays (s3 g 63 (x).toNatClampNeg (y).toNatClampNeg (((g 63 (x).toNatClampNeg (y).toNatClampNeg) + 1))) (x) (y) (z)) (x)))) 2 0 0 = g 2 0 0 from (s3_k (by decide)).trans ((F_X12_lays (by decide) (by decide) (by decide)).trans (s3_k (by decide)))]; exact hu) (by rw [show (s3 (S_X12_lays (s3 g 63 (x).toNatClampNeg (y).toNatClampNeg (((g 63 (x).toNatClampNeg (y).toNatClampNeg) + 1))) (x) (y) (z)) 57 (x).toNatClampNeg 0 ((V_X12_markOf (S_X12_lays (s3 g 63 (x).toNatClampNeg (y).toNatClampNeg (((g 63 (x).toNatClampNeg (y).toNatClampNeg) + 1))) (x) (y) (z)) (x)))) 3 0 0 = g 3 0 0 from (s3_k (by decide)).trans ((F_X12_lays (by decide) (by decide) (by decide)).trans (s3_k (by decide)))]; exact hg0) (by rw [show (s3 (S_X12_lays (s3 g 63 (x).toNatClampNeg (y).toNatClampNeg (((g 63 (x).toNatClampNeg (y).toNatClampNeg) + 1))) (x) (y) (z)) 57 (x).toNatClampNeg 0 ((V_X12_markOf (S_X12_lays (s3 g 63 (x).toNatClampNeg (y).toNatClampNeg (((g 63 (x).toNatClampNeg (y).toNatClampNeg) + 1))) (x) (y) (z)) (x)))) 3 0 0 = g 3 0 0 from (s3_k (by decide)).trans ((F_X12_lays (by decide) (by decide) (by decide)).trans (s3_k (by decide)))]; exact hg) (by rw [show (s3 (S_X12_lays (s3 g 63 (x).toNatClampNeg (y).toNatClampNeg (((g 63 (x).toNatClampNeg (y).toNatClampNeg) + 1))) (x) (y) (z)) 57 (x).toNatClampNeg 0 ((V_X12_markOf (S_X12_lays (s3 g 63 (x).toNatClampNeg (y).toNatClampNeg (((g 63 (x).toNatClampNeg (y).toNatClampNeg) + 1))) (x) (y) (z)) (x)))) 4 0 0 = g 4 0 0 from (s3_k (by decide)).trans ((F_X12_lays (by decide) (by decide) (by decide)).trans (s3_k (by decide)))]; exact hf0) (by rw [show (s3 (S_X12_lays (s3 g 63 (x).toNatClampNeg (y).toNatClampNeg (((g 63 (x).toNatClampNeg (y).toNatClampNeg) + 1))) (x) (y) (z)) 57 (x).toNatClampNeg 0 ((V_X12_markOf (S_X12_lays (s3 g 63 (x).toNatClampNeg (y).toNatClampNeg (((g 63 (x).toNatClampNeg (y).toNatClampNeg) + 1))) (x) (y) (z)) (x)))) 4 0 0 = g 4 0 0 from (s3_k (by decide)).trans ((F_X12_lays (by decide) (by decide) (by decide)).trans (s3_k (by decide)))]; exact hf) (by rw [show (s3 (S_X12_lays (s3 g 63 (x).toNatClampNeg (y).toNatClampNeg (((g 63 (x).toNatClampNeg (y).toNatClampNeg) + 1))) (x) (y) (z)) 57 (x).toNatClampNeg 0 ((V_X12_markOf (S_X12_lays (s3 g 63 (x).toNatClampNeg (y).toNatClampNeg (((g 63 (x).toNatClampNeg (y).toNatClampNeg) + 1))) (x) (y) (z)) (x)))) 11 0 0 = g 11 0 0 from (s3_k (by decide)).trans ((F_X12_lays (by decide) (by decide) (by decide)).trans (s3_k (by decide)))]; exact hl0) (by (try simp only [Int32.le_iff_toInt_le, Int32.lt_iff_toInt_lt, ← Int32.toInt_inj, Int32.reduceToInt] at c_3 b_1 b_2 hu hg hf x_0 x_N y_0 y_N hl0 hl9); rw [show (s3 (S_X12_lays (s3 g 63 (x).toNatClampNeg (y).toNatClampNeg (((g 63 (x).toNatClampNeg (y).toNatClampNeg) + 1))) (x) (y) (z)) 57 (x).toNatClampNeg 0 ((V_X12_markOf (S_X12_lays (s3 g 63 (x).toNatClampNeg (y).toNatClampNeg (((g 63 (x).toNatClampNeg (y).toNatClampNeg) + 1))) (x) (y) (z)) (x)))) 11 0 0 = g 11 0 0 from (s3_k (by decide)).trans ((F_X12_lays (by decide) (by decide) (by decide)).trans (s3_k (by decide)))]; omega)) 1 wd_1562 wd_68 wd_1559 wd_1561 wd_39 (by decide +kernel) (by decide) (by decide) rfl ([]) rfl (Nat.le_of_ble_eq_true rfl) ⟨Nat.zero_le _, Nat.zero_le _⟩ dX12_puts_80 (fun _ _ _ q => q.elim) (fun v9 A9 h9 hR9 => ?_)
    obtain ⟨rfl, hA9, rfl⟩ := hR9
    obtain rfl := hA9.symm
    refine v_st (k2 := 0) (n2 := 0) (st2 := []) rfl rfl rfl ?_
    refine v_aload_n (pc := 83) C dX12_puts_83 0 rfl rfl ?_
    refine v_get (pc := 84) C (40, 0) (v := .ref (A (56, 0))) ck_40 rfl 16 (by decide) inX12 wd_1404 rfl rfl dX12_puts_84 ?_
    refine v_iload_n (pc := 87) C dX12_puts_87 1 rfl rfl ?_
    refine v_iald (pc := 88) C (56, 0) (v := (g 56 (x).toNatClampNeg 0)) ck_56 (by (try simp only [Int32.le_iff_toInt_le, Int32.lt_iff_toInt_lt, ← Int32.toInt_inj, vp_in_iff, Int32.reduceToInt] at c_3 b_1 b_2 hu hg hf x_0 x_N y_0 y_N hl0 hl9 ⊢) <;> omega) ((F_X12_adds (by decide) (by decide)).trans ((s3_k (by decide)).trans ((F_X12_lays (by decide) (by decide) (by decide)).trans (s3_k (by decide))))) dX12_puts_88 ?_
    have b_4 := h2 (x).toNatClampNeg
    exact v_iret (pc := 89) C (Nat.zero_le _) (Nat.zero_le _) dX12_puts_89 ⟨(congrArg (fun q => some (Value.int q)) (by show _ = _; rw [V_X12_puts, if_pos c_3])), vAs_r, (congrArg (fun q => wm q r) (by show _ = _; rw [S_X12_puts, if_pos c_3]))⟩
  · skip
    refine v_aload_n (pc := 27) C dX12_puts_27 0 rfl rfl ?_
    refine v_iload_n (pc := 28) C dX12_puts_28 1 rfl rfl ?_
    have hpr := vPb_puts1 (g := g) (x := x) (y := y) (z := z) c_3
    refine v_callV (pc := 29) C (40, 0) ck_40 rfl (c_X12_turns hG (g := g) (x) hu0 hu hg0 hg hf0 hf (by (try simp only [Int32.le_iff_toInt_le, Int32.lt_iff_toInt_lt, ← Int32.toInt_inj, Int32.reduceToInt] at c_3 b_1 b_2 hu hg hf x_0 x_N y_0 y_N hl0 hl9 ⊢); omega) (by (try simp only [Int32.le_iff_toInt_le, Int32.lt_iff_toInt_lt, ← Int32.toInt_inj, Int32.reduceToInt] at c_3 b_1 b_2 hu hg hf x_0 x_N y_0 y_N hl0 hl9 ⊢); omega) h1 h2 h3 B h7 hB hr) 1 wd_1578 wd_68 wd_1575 wd_1577 wd_42 (by decide +kernel) (by decide) (by decide) rfl ([]) rfl (Nat.le_of_ble_eq_true rfl) ⟨by omega, by omega⟩ dX12_puts_29 (fun _ _ _ q => q.elim) (fun v9 A_5 h9 hR9 => ?_)
    obtain ⟨rfl, hA_5, rfl⟩ := hR9
    refine v_st (k2 := (0 + (vPb (S_X12_turns g (x)) - vPb g))) (n2 := (0 + (2 * (vPb (S_X12_turns g (x)) - vPb g)))) (st2 := []) rfl rfl rfl ?_
    refine v_lve (lv2 := [(0, .ref (A_5 (40, 0))), (1, .int (x)), (2, .int (y)), (3, .int (z))]) (by rw [(hA_5 (40, 0) (Or.inl (by show 40 < 59; decide)))]) ?_
    refine v_aload_n (pc := 32) C dX12_puts_32 0 rfl rfl ?_
    refine v_get (pc := 33) C (40, 0) (v := .ref (A_5 (62, 0))) ck_40 rfl 20 (by decide) inX12 wd_1408 rfl rfl dX12_puts_33 ?_
    refine v_iload_n (pc := 36) C dX12_puts_36 1 rfl rfl ?_
    refine v_aald (pc := 37) C (62, 0) ck_62 rfl rfl (by (try simp only [Int32.le_iff_toInt_le, Int32.lt_iff_toInt_lt, ← Int32.toInt_inj, vp_in_iff, Int32.reduceToInt] at c_3 b_1 b_2 hu hg hf x_0 x_N y_0 y_N hl0 hl9 ⊢) <;> omega) (63, (x).toNatClampNeg) rfl dX12_puts_37 ?_
    refine v_iload_n (pc := 38) C dX12_puts_38 2 rfl rfl ?_
    refine v_dup2_11 (pc := 39) C dX12_puts_39 rfl rfl ?_
    refine v_iald (pc := 40) C (63, (x).toNatClampNeg) (v := (g 63 (x).toNatClampNeg (y).toNatClampNeg)) (ck_63 (g := (S_X12_turns g (x))) (tn_lt (by (try simp only [Int32.le_iff_toInt_le, Int32.lt_iff_toInt_lt, ← Int32.toInt_inj, Int32.reduceToInt] at c_3 b_1 b_2 hu hg hf x_0 x_N y_0 y_N hl0 hl9 ⊢); omega))) (by (try simp only [Int32.le_iff_toInt_le, Int32.lt_iff_toInt_lt, ← Int32.toInt_inj, vp_in_iff, Int32.reduceToInt] at c_3 b_1 b_2 hu hg hf x_0 x_N y_0 y_N hl0 hl9 ⊢) <;> omega) (F_X12_turns (by decide) (by decide) (by decide)) dX12_puts_40 ?_
    refine v_iconst (v := 1) (pc := 41) C dX12_puts_41 rfl ?_
    refine v_iadd (pc := 42) C dX12_puts_42 ?_
    refine v_iast (pc := 43) C (63, (x).toNatClampNeg) (x := ((g 63 (x).toNatClampNeg (y).toNatClampNeg) + 1)) (ck_63 (g := (S_X12_turns g (x))) (tn_lt (by (try simp only [Int32.le_iff_toInt_le, Int32.lt_iff_toInt_lt, ← Int32.toInt_inj, Int32.reduceToInt] at c_3 b_1 b_2 hu hg hf x_0 x_N y_0 y_N hl0 hl9 ⊢); omega))) (by (try simp only [Int32.le_iff_toInt_le, Int32.lt_iff_toInt_lt, ← Int32.toInt_inj, vp_in_iff, Int32.reduceToInt] at c_3 b_1 b_2 hu hg hf x_0 x_N y_0 y_N hl0 hl9 ⊢) <;> omega) dX12_puts_43 ?_
    refine v_h (h2 := (wm (s3 (S_X12_turns g (x)) 63 (x).toNatClampNeg (y).toNatClampNeg (((g 63 (x).toNatClampNeg (y).toNatClampNeg) + 1))) r)) (u_63_a (g := (S_X12_turns g (x))) (tn_lt (by (try simp only [Int32.le_iff_toInt_le, Int32.lt_iff_toInt_lt, ← Int32.toInt_inj, Int32.reduceToInt] at c_3 b_1 b_2 hu hg hf x_0 x_N y_0 y_N hl0 hl9 ⊢); omega))) ?_
    refine v_aload_n (pc := 44) C dX12_puts_44 0 rfl rfl ?_
    refine v_iload_n (pc := 45) C dX12_puts_45 1 rfl rfl ?_
    refine v_iload_n (pc := 46) C dX12_puts_46 2 rfl rfl ?_
    refine v_iload_n (pc := 47) C dX12_puts_47 3 rfl rfl ?_
    refine v_callV (pc := 48) C (40, 0) ck_40 rfl (c_X12_lays hG (g := (s3 (S_X12_turns g (x)) 63 (x).toNatClampNeg (y).toNatClampNeg (((g 63 (x).toNatClampNeg (y).toNatClampNeg) + 1)))) (x) (y) (z) (by rw [show (s3 (S_X12_turns g (x)) 63 (x).toNatClampNeg (y).toNatClampNeg (((g 63 (x).toNatClampNeg (y).toNatClampNeg) + 1))) 2 0 0 = g 2 0 0 from (s3_k (by decide)).trans (F_X12_turns (by decide) (by decide) (by decide))]; exact hu0) (by rw [show (s3 (S_X12_turns g (x)) 63 (x).toNatClampNeg (y).toNatClampNeg (((g 63 (x).toNatClampNeg (y).toNatClampNeg) + 1))) 2 0 0 = g 2 0 0 from (s3_k (by decide)).trans (F_X12_turns (by decide) (by decide) (by decide))]; exact hu) (by rw [show (s3 (S_X12_turns g (x)) 63 (x).toNatClampNeg (y).toNatClampNeg (((g 63 (x).toNatClampNeg (y).toNatClampNeg) + 1))) 3 0 0 = g 3 0 0 from (s3_k (by decide)).trans (F_X12_turns (by decide) (by decide) (by decide))]; exact hg0) (by rw [show (s3 (S_X12_turns g (x)) 63 (x).toNatClampNeg (y).toNatClampNeg (((g 63 (x).toNatClampNeg (y).toNatClampNeg) + 1))) 3 0 0 = g 3 0 0 from (s3_k (by decide)).trans (F_X12_turns (by decide) (by decide) (by decide))]; exact hg) (by rw [show (s3 (S_X12_turns g (x)) 63 (x).toNatClampNeg (y).toNatClampNeg (((g 63 (x).toNatClampNeg (y).toNatClampNeg) + 1))) 4 0 0 = g 4 0 0 from (s3_k (by decide)).trans (F_X12_turns (by decide) (by decide) (by decide))]; exact hf0) (by rw [show (s3 (S_X12_turns g (x)) 63 (x).toNatClampNeg (y).toNatClampNeg (((g 63 (x).toNatClampNeg (y).toNatClampNeg) + 1))) 4 0 0 = g 4 0 0 from (s3_k (by decide)).trans (F_X12_turns (by decide) (by decide) (by decide))]; exact hf) (by (try simp only [Int32.le_iff_toInt_le, Int32.lt_iff_toInt_lt, ← Int32.toInt_inj, Int32.reduceToInt] at c_3 b_1 b_2 hu hg hf x_0 x_N y_0 y_N hl0 hl9 ⊢); omega) (by (try simp only [Int32.le_iff_toInt_le, Int32.lt_iff_toInt_lt, ← Int32.toInt_inj, Int32.reduceToInt] at c_3 b_1 b_2 hu hg hf x_0 x_N y_0 y_N hl0 hl9 ⊢); omega) (by (try simp only [Int32.le_iff_toInt_le, Int32.lt_iff_toInt_lt, ← Int32.toInt_inj, Int32.reduceToInt] at c_3 b_1 b_2 hu hg hf x_0 x_N y_0 y_N hl0 hl9 ⊢); omega) (by (try simp only [Int32.le_iff_toInt_le, Int32.lt_iff_toInt_lt, ← Int32.toInt_inj, Int32.reduceToInt] at c_3 b_1 b_2 hu hg hf x_0 x_N y_0 y_N hl0 hl9 ⊢); omega)) 3 wd_1582 wd_68 wd_1579 wd_1581 wd_43 (by decide +kernel) (by decide) (by decide) rfl ([]) rfl (Nat.le_of_ble_eq_true rfl) ⟨by omega, by omega⟩ dX12_puts_48 (fun _ _ _ q => q.elim) (fun v9 A9 h9 hR9 => ?_)
    obtain ⟨rfl, hA9, rfl⟩ := hR9
    obtain rfl := hA9.symm
    refine v_st (k2 := (0 + (vPb (S_X12_turns g (x)) - vPb g))) (n2 := (0 + (2 * (vPb (S_X12_turns g (x)) - vPb g)))) (st2 := []) rfl rfl rfl ?_
    refine v_aload_n (pc := 51) C dX12_puts_51 0 rfl rfl ?_
    refine v_get (pc := 52) C (40, 0) (v := .ref (A_5 (57, 0))) ck_40 rfl 17 (by decide) inX12 wd_1405 rfl rfl dX12_puts_52 ?_
    refine v_iload_n (pc := 55) C dX12_puts_55 1 rfl rfl ?_
    refine v_aload_n (pc := 56) C dX12_puts_56 0 rfl rfl ?_
    refine v_iload_n (pc := 57) C dX12_puts_57 1 rfl rfl ?_
    refine v_callV (pc := 58) C (40, 0) ck_40 rfl (c_X12_markOf hG (g := (S_X12_lays (s3 (S_X12_turns g (x)) 63 (x).toNatClampNeg (y).toNatClampNeg (((g 63 (x).toNatClampNeg (y).toNatClampNeg) + 1))) (x) (y) (z))) (x) (by rw [show (S_X12_lays (s3 (S_X12_turns g (x)) 63 (x).toNatClampNeg (y).toNatClampNeg (((g 63 (x).toNatClampNeg (y).toNatClampNeg) + 1))) (x) (y) (z)) 2 0 0 = g 2 0 0 from (F_X12_lays (by decide) (by decide) (by decide)).trans ((s3_k (by decide)).trans (F_X12_turns (by decide) (by decide) (by decide)))]; exact hu0) (by rw [show (S_X12_lays (s3 (S_X12_turns g (x)) 63 (x).toNatClampNeg (y).toNatClampNeg (((g 63 (x).toNatClampNeg (y).toNatClampNeg) + 1))) (x) (y) (z)) 2 0 0 = g 2 0 0 from (F_X12_lays (by decide) (by decide) (by decide)).trans ((s3_k (by decide)).trans (F_X12_turns (by decide) (by decide) (by decide)))]; exact hu) (by rw [show (S_X12_lays (s3 (S_X12_turns g (x)) 63 (x).toNatClampNeg (y).toNatClampNeg (((g 63 (x).toNatClampNeg (y).toNatClampNeg) + 1))) (x) (y) (z)) 3 0 0 = g 3 0 0 from (F_X12_lays (by decide) (by decide) (by decide)).trans ((s3_k (by decide)).trans (F_X12_turns (by decide) (by decide) (by decide)))]; exact hg0) (by rw [show (S_X12_lays (s3 (S_X12_turns g (x)) 63 (x).toNatClampNeg (y).toNatClampNeg (((g 63 (x).toNatClampNeg (y).toNatClampNeg) + 1))) (x) (y) (z)) 3 0 0 = g 3 0 0 from (F_X12_lays (by decide) (by decide) (by decide)).trans ((s3_k (by decide)).trans (F_X12_turns (by decide) (by decide) (by decide)))]; exact hg) (by rw [show (S_X12_lays (s3 (S_X12_turns g (x)) 63 (x).toNatClampNeg (y).toNatClampNeg (((g 63 (x).toNatClampNeg (y).toNatClampNeg) + 1))) (x) (y) (z)) 4 0 0 = g 4 0 0 from (F_X12_lays (by decide) (by decide) (by decide)).trans ((s3_k (by decide)).trans (F_X12_turns (by decide) (by decide) (by decide)))]; exact hf0) (by rw [show (S_X12_lays (s3 (S_X12_turns g (x)) 63 (x).toNatClampNeg (y).toNatClampNeg (((g 63 (x).toNatClampNeg (y).toNatClampNeg) + 1))) (x) (y) (z)) 4 0 0 = g 4 0 0 from (F_X12_lays (by decide) (by decide) (by decide)).trans ((s3_k (by decide)).trans (F_X12_turns (by decide) (by decide) (by decide)))]; exact hf) (by (try simp only [Int32.le_iff_toInt_le, Int32.lt_iff_toInt_lt, ← Int32.toInt_inj, Int32.reduceToInt] at c_3 b_1 b_2 hu hg hf x_0 x_N y_0 y_N hl0 hl9 ⊢); omega) (by (try simp only [Int32.le_iff_toInt_le, Int32.lt_iff_toInt_lt, ← Int32.toInt_inj, Int32.reduceToInt] at c_3 b_1 b_2 hu hg hf x_0 x_N y_0 y_N hl0 hl9 ⊢); omega)) 1 wd_1574 wd_68 wd_1571 wd_1573 wd_41 (by decide +kernel) (by decide) (by decide) rfl ([.int (x), .ref (A_5 (57, 0))]) rfl (Nat.le_of_ble_eq_true rfl) ⟨by omega, by omega⟩ dX12_puts_58 (fun _ _ _ q => q.elim) (fun v9 A9 h9 hR9 => ?_)
    obtain ⟨rfl, hA9, rfl⟩ := hR9
    obtain rfl := hA9.symm
    refine v_st (k2 := (0 + (vPb (S_X12_turns g (x)) - vPb g))) (n2 := (0 + (2 * (vPb (S_X12_turns g (x)) - vPb g)))) (st2 := [.int ((V_X12_markOf (S_X12_lays (s3 (S_X12_turns g (x)) 63 (x).toNatClampNeg (y).toNatClampNeg (((g 63 (x).toNatClampNeg (y).toNatClampNeg) + 1))) (x) (y) (z)) (x))), .int (x), .ref (A_5 (57, 0))]) rfl rfl rfl ?_
    refine v_iast (pc := 61) C (57, 0) (x := (V_X12_markOf (S_X12_lays (s3 (S_X12_turns g (x)) 63 (x).toNatClampNeg (y).toNatClampNeg (((g 63 (x).toNatClampNeg (y).toNatClampNeg) + 1))) (x) (y) (z)) (x))) ck_57 (by (try simp only [Int32.le_iff_toInt_le, Int32.lt_iff_toInt_lt, ← Int32.toInt_inj, vp_in_iff, Int32.reduceToInt] at c_3 b_1 b_2 hu hg hf x_0 x_N y_0 y_N hl0 hl9 ⊢) <;> omega) dX12_puts_61 ?_
    refine v_h (h2 := (wm (s3 (S_X12_lays (s3 (S_X12_turns g (x)) 63 (x).toNatClampNeg (y).toNatClampNeg (((g 63 (x).toNatClampNeg (y).toNatClampNeg) + 1))) (x) (y) (z)) 57 (x).toNatClampNeg 0 ((V_X12_markOf (S_X12_lays (s3 (S_X12_turns g (x)) 63 (x).toNatClampNeg (y).toNatClampNeg (((g 63 (x).toNatClampNeg (y).toNatClampNeg) + 1))) (x) (y) (z)) (x)))) r)) (u_57_a) ?_
    refine v_aload_n (pc := 62) C dX12_puts_62 0 rfl rfl ?_
    refine v_bipush (v := 8) (pc := 63) C dX12_puts_63 (by decide) ?_
    refine v_iload_n (pc := 65) C dX12_puts_65 1 rfl rfl ?_
    refine v_imul (pc := 66) C dX12_puts_66 ?_
    refine v_iload_n (pc := 67) C dX12_puts_67 2 rfl rfl ?_
    refine v_iadd (pc := 68) C dX12_puts_68 ?_
    refine v_aload_n (pc := 69) C dX12_puts_69 0 rfl rfl ?_
    refine v_get (pc := 70) C (40, 0) (v := .ref (A_5 (64, 0))) ck_40 rfl 21 (by decide) inX12 wd_1409 rfl rfl dX12_puts_70 ?_
    refine v_iload_n (pc := 73) C dX12_puts_73 1 rfl rfl ?_
    refine v_aald (pc := 74) C (64, 0) ck_64 rfl rfl (by (try simp only [Int32.le_iff_toInt_le, Int32.lt_iff_toInt_lt, ← Int32.toInt_inj, vp_in_iff, Int32.reduceToInt] at c_3 b_1 b_2 hu hg hf x_0 x_N y_0 y_N hl0 hl9 ⊢) <;> omega) (65, (x).toNatClampNeg) rfl dX12_puts_74 ?_
    refine v_iload_n (pc := 75) C dX12_puts_75 2 rfl rfl ?_
    refine v_iald (pc := 76) C (65, (x).toNatClampNeg) (v := ((S_X12_lays (s3 (S_X12_turns g (x)) 63 (x).toNatClampNeg (y).toNatClampNeg (((g 63 (x).toNatClampNeg (y).toNatClampNeg) + 1))) (x) (y) (z)) 65 (x).toNatClampNeg (y).toNatClampNeg)) (ck_65 (g := (s3 (S_X12_lays (s3 (S_X12_turns g (x)) 63 (x).toNatClampNeg (y).toNatClampNeg (((g 63 (x).toNatClampNeg (y).toNatClampNeg) + 1))) (x) (y) (z)) 57 (x).toNatClampNeg 0 ((V_X12_markOf (S_X12_lays (s3 (S_X12_turns g (x)) 63 (x).toNatClampNeg (y).toNatClampNeg (((g 63 (x).toNatClampNeg (y).toNatClampNeg) + 1))) (x) (y) (z)) (x))))) (tn_lt (by (try simp only [Int32.le_iff_toInt_le, Int32.lt_iff_toInt_lt, ← Int32.toInt_inj, Int32.reduceToInt] at c_3 b_1 b_2 hu hg hf x_0 x_N y_0 y_N hl0 hl9 ⊢); omega))) (by (try simp only [Int32.le_iff_toInt_le, Int32.lt_iff_toInt_lt, ← Int32.toInt_inj, vp_in_iff, Int32.reduceToInt] at c_3 b_1 b_2 hu hg hf x_0 x_N y_0 y_N hl0 hl9 ⊢) <;> omega) rfl dX12_puts_76 ?_
    refine v_callS (pc := 77) C (c_X12_mix hG (((8 * x) + y)) (((S_X12_lays (s3 (S_X12_turns g (x)) 63 (x).toNatClampNeg (y).toNatClampNeg (((g 63 (x).toNatClampNeg (y).toNatClampNeg) + 1))) (x) (y) (z)) 65 (x).toNatClampNeg (y).toNatClampNeg))) 2 wd_1554 wd_68 wd_1552 wd_1553 (by decide +kernel) (by decide) (by decide) rfl ([.ref (A_5 (40, 0))]) rfl (Nat.le_of_ble_eq_true rfl) ⟨by omega, by omega⟩ dX12_puts_77 (fun _ _ _ q => q.elim) (fun v9 A9 h9 hR9 => ?_)
    obtain ⟨rfl, hA9, rfl⟩ := hR9
    obtain rfl := hA9.symm
    refine v_st (k2 := (0 + (vPb (S_X12_turns g (x)) - vPb g))) (n2 := (0 + (2 * (vPb (S_X12_turns g (x)) - vPb g)))) (st2 := [.int (pMix (((8 * x) + y)) (((S_X12_lays (s3 (S_X12_turns g (x)) 63 (x).toNatClampNeg (y).toNatClampNeg (((g 63 (x).toNatClampNeg (y).toNatClampNeg) + 1))) (x) (y) (z)) 65 (x).toNatClampNeg (y).toNatClampNeg))), .ref (A_5 (40, 0))]) rfl rfl rfl ?_
    refine v_callV (pc := 80) C (40, 0) ck_40 rfl (c_X12_adds hG (g := (s3 (S_X12_lays (s3 (S_X12_turns g (x)) 63 (x).toNatClampNeg (y).toNatClampNeg (((g 63 (x).toNatClampNeg (y).toNatClampNeg) + 1))) (x) (y) (z)) 57 (x).toNatClampNeg 0 ((V_X12_markOf (S_X12_lays (s3 (S_X12_turns g (x)) 63 (x).toNatClampNeg (y).toNatClampNeg (((g 63 (x).toNatClampNeg (y).toNatClampNeg) + 1))) (x) (y) (z)) (x))))) (pMix (((8 * x) + y)) (((S_X12_lays (s3 (S_X12_turns g (x)) 63 (x).toNatClampNeg (y).toNatClampNeg (((g 63 (x).toNatClampNeg (y).toNatClampNeg) + 1))) (x) (y) (z)) 65 (x).toNatClampNeg (y).toNatClampNeg))) (by rw [show (s3 (S_X12_lays (s3 (S_X12_turns g (x)) 63 (x).toNatClampNeg (y).toNatClampNeg (((g 63 (x).toNatClampNeg (y).toNatClampNeg) + 1))) (x) (y) (z)) 57 (x).toNatClampNeg 0 ((V_X12_markOf (S_X12_lays (s3 (S_X12_turns g (x)) 63 (x).toNatClampNeg (y).toNatClampNeg (((g 63 (x).toNatClampNeg (y).toNatClampNeg) + 1))) (x) (y) (z)) (x)))) 2 0 0 = g 2 0 0 from (s3_k (by decide)).trans ((F_X12_lays (by decide) (by decide) (by decide)).trans ((s3_k (by decide)).trans (F_X12_turns (by decide) (by decide) (by decide))))]; exact hu0) (by rw [show (s3 (S_X12_lays (s3 (S_X12_turns g (x)) 63 (x).toNatClampNeg (y).toNatClampNeg (((g 63 (x).toNatClampNeg (y).toNatClampNeg) + 1))) (x) (y) (z)) 57 (x).toNatClampNeg 0 ((V_X12_markOf (S_X12_lays (s3 (S_X12_turns g (x)) 63 (x).toNatClampNeg (y).toNatClampNeg (((g 63 (x).toNatClampNeg (y).toNatClampNeg) + 1))) (x) (y) (z)) (x)))) 2 0 0 = g 2 0 0 from (s3_k (by decide)).trans ((F_X12_lays (by decide) (by decide) (by decide)).trans ((s3_k (by decide)).trans (F_X12_turns (by decide) (by decide) (by decide))))]; exact hu) (by rw [show (s3 (S_X12_lays (s3 (S_X12_turns g (x)) 63 (x).toNatClampNeg (y).toNatClampNeg (((g 63 (x).toNatClampNeg (y).toNatClampNeg) + 1))) (x) (y) (z)) 57 (x).toNatClampNeg 0 ((V_X12_markOf (S_X12_lays (s3 (S_X12_turns g (x)) 63 (x).toNatClampNeg (y).toNatClampNeg (((g 63 (x).toNatClampNeg (y).toNatClampNeg) + 1))) (x) (y) (z)) (x)))) 3 0 0 = g 3 0 0 from (s3_k (by decide)).trans ((F_X12_lays (by decide) (by decide) (by decide)).trans ((s3_k (by decide)).trans (F_X12_turns (by decide) (by decide) (by decide))))]; exact hg0) (by rw [show (s3 (S_X12_lays (s3 (S_X12_turns g (x)) 63 (x).toNatClampNeg (y).toNatClampNeg (((g 63 (x).toNatClampNeg (y).toNatClampNeg) + 1))) (x) (y) (z)) 57 (x).toNatClampNeg 0 ((V_X12_markOf (S_X12_lays (s3 (S_X12_turns g (x)) 63 (x).toNatClampNeg (y).toNatClampNeg (((g 63 (x).toNatClampNeg (y).toNatClampNeg) + 1))) (x) (y) (z)) (x)))) 3 0 0 = g 3 0 0 from (s3_k (by decide)).trans ((F_X12_lays (by decide) (by decide) (by decide)).trans ((s3_k (by decide)).trans (F_X12_turns (by decide) (by decide) (by decide))))]; exact hg) (by rw [show (s3 (S_X12_lays (s3 (S_X12_turns g (x)) 63 (x).toNatClampNeg (y).toNatClampNeg (((g 63 (x).toNatClampNeg (y).toNatClampNeg) + 1))) (x) (y) (z)) 57 (x).toNatClampNeg 0 ((V_X12_markOf (S_X12_lays (s3 (S_X12_turns g (x)) 63 (x).toNatClampNeg (y).toNatClampNeg (((g 63 (x).toNatClampNeg (y).toNatClampNeg) + 1))) (x) (y) (z)) (x)))) 4 0 0 = g 4 0 0 from (s3_k (by decide)).trans ((F_X12_lays (by decide) (by decide) (by decide)).trans ((s3_k (by decide)).trans (F_X12_turns (by decide) (by decide) (by decide))))]; exact hf0) (by rw [show (s3 (S_X12_lays (s3 (S_X12_turns g (x)) 63 (x).toNatClampNeg (y).toNatClampNeg (((g 63 (x).toNatClampNeg (y).toNatClampNeg) + 1))) (x) (y) (z)) 57 (x).toNatClampNeg 0 ((V_X12_markOf (S_X12_lays (s3 (S_X12_turns g (x)) 63 (x).toNatClampNeg (y).toNatClampNeg (((g 63 (x).toNatClampNeg (y).toNatClampNeg) + 1))) (x) (y) (z)) (x)))) 4 0 0 = g 4 0 0 from (s3_k (by decide)).trans ((F_X12_lays (by decide) (by decide) (by decide)).trans ((s3_k (by decide)).trans (F_X12_turns (by decide) (by decide) (by decide))))]; exact hf) (by rw [show (s3 (S_X12_lays (s3 (S_X12_turns g (x)) 63 (x).toNatClampNeg (y).toNatClampNeg (((g 63 (x).toNatClampNeg (y).toNatClampNeg) + 1))) (x) (y) (z)) 57 (x).toNatClampNeg 0 ((V_X12_markOf (S_X12_lays (s3 (S_X12_turns g (x)) 63 (x).toNatClampNeg (y).toNatClampNeg (((g 63 (x).toNatClampNeg (y).toNatClampNeg) + 1))) (x) (y) (z)) (x)))) 11 0 0 = g 11 0 0 from (s3_k (by decide)).trans ((F_X12_lays (by decide) (by decide) (by decide)).trans ((s3_k (by decide)).trans (F_X12_turns (by decide) (by decide) (by decide))))]; exact hl0) (by (try simp only [Int32.le_iff_toInt_le, Int32.lt_iff_toInt_lt, ← Int32.toInt_inj, Int32.reduceToInt] at c_3 b_1 b_2 hu hg hf x_0 x_N y_0 y_N hl0 hl9); rw [show (s3 (S_X12_lays (s3 (S_X12_turns g (x)) 63 (x).toNatClampNeg (y).toNatClampNeg (((g 63 (x).toNatClampNeg (y).toNatClampNeg) + 1))) (x) (y) (z)) 57 (x).toNatClampNeg 0 ((V_X12_markOf (S_X12_lays (s3 (S_X12_turns g (x)) 63 (x).toNatClampNeg (y).toNatClampNeg (((g 63 (x).toNatClampNeg (y).toNatClampNeg) + 1))) (x) (y) (z)) (x)))) 11 0 0 = g 11 0 0 from (s3_k (by decide)).trans ((F_X12_lays (by decide) (by decide) (by decide)).trans ((s3_k (by decide)).trans (F_X12_turns (by decide) (by decide) (by decide))))]; omega)) 1 wd_1562 wd_68 wd_1559 wd_1561 wd_39 (by decide +kernel) (by decide) (by decide) rfl ([]) rfl (Nat.le_of_ble_eq_true rfl) ⟨by omega, by omega⟩ dX12_puts_80 (fun _ _ _ q => q.elim) (fun v9 A9 h9 hR9 => ?_)
    obtain ⟨rfl, hA9, rfl⟩ := hR9
    obtain rfl := hA9.symm
    refine v_st (k2 := (0 + (vPb (S_X12_turns g (x)) - vPb g))) (n2 := (0 + (2 * (vPb (S_X12_turns g (x)) - vPb g)))) (st2 := []) rfl rfl rfl ?_
    refine v_aload_n (pc := 83) C dX12_puts_83 0 rfl rfl ?_
    refine v_get (pc := 84) C (40, 0) (v := .ref (A_5 (56, 0))) ck_40 rfl 16 (by decide) inX12 wd_1404 rfl rfl dX12_puts_84 ?_
    refine v_iload_n (pc := 87) C dX12_puts_87 1 rfl rfl ?_
    refine v_iald (pc := 88) C (56, 0) (v := ((S_X12_turns g (x)) 56 (x).toNatClampNeg 0)) ck_56 (by (try simp only [Int32.le_iff_toInt_le, Int32.lt_iff_toInt_lt, ← Int32.toInt_inj, vp_in_iff, Int32.reduceToInt] at c_3 b_1 b_2 hu hg hf x_0 x_N y_0 y_N hl0 hl9 ⊢) <;> omega) ((F_X12_adds (by decide) (by decide)).trans ((s3_k (by decide)).trans ((F_X12_lays (by decide) (by decide) (by decide)).trans (s3_k (by decide))))) dX12_puts_88 ?_
    exact v_iret (pc := 89) C (by omega) (by omega) dX12_puts_89 ⟨(congrArg (fun q => some (Value.int q)) (by show _ = _; rw [V_X12_puts, if_neg c_3])), (vAs_w hA_5 (by decide) (by decide)), (congrArg (fun q => wm q r) (by show _ = _; rw [S_X12_puts, if_neg c_3]))⟩
def V_X12_write (g : vS) (u : Int32) (x : Int32) (y : Int32) (z : Int32) : Int32 := (if (V_X12_isUser g (u)) = 0 then 0 else (if (V_X12_isFile g (x)) = 0 then 0 else (if (V_X12_isPart g (y)) = 0 then 0 else (if (V_X12_isWrong g ((V_X12_cannotWrite g (u) (x) (y)))) = 0 then (V_X12_puts (S_X12_isWrong g ((V_X12_cannotWrite g (u) (x) (y)))) (x) (y) (z)) else 0))))
def S_X12_write (g : vS) (u : Int32) (x : Int32) (y : Int32) (z : Int32) : vS := (if (V_X12_isUser g (u)) = 0 then (S_X12_isWrong g (1)) else (if (V_X12_isFile g (x)) = 0 then (S_X12_isWrong g (1)) else (if (V_X12_isPart g (y)) = 0 then (S_X12_isWrong g (2)) else (if (V_X12_isWrong g ((V_X12_cannotWrite g (u) (x) (y)))) = 0 then (S_X12_puts (S_X12_isWrong g ((V_X12_cannotWrite g (u) (x) (y)))) (x) (y) (z)) else (S_X12_isWrong g ((V_X12_cannotWrite g (u) (x) (y))))))))
theorem F_X12_write {g : vS} {u : Int32} {x : Int32} {y : Int32} {z : Int32} {c i j : Nat} (h1 : c ≠ 1) (h11 : c ≠ 11) (h13 : c ≠ 13) (h56 : c ≠ 56) (h57 : c ≠ 57) (h59 : c ≠ 59) (h61 : c ≠ 61) (h63 : c ≠ 63) (h65 : c ≠ 65) (h67 : c ≠ 67) (h73 : c ≠ 73) : S_X12_write g u x y z c i j = g c i j := by
  unfold S_X12_write
  (repeat' split) <;> first | rfl | ((simp only [s3_k h1, s3_k h11, s3_k h13, s3_k h56, s3_k h57, s3_k h59, s3_k h61, s3_k h63, s3_k h65, s3_k h67, s3_k h73, F_X12_isWrong h1, F_X12_puts h11 h13 h56 h57 h59 h61 h63 h65 h67 h73]) <;> first | done | rfl)
set_option maxHeartbeats 4000000 in
set_option maxRecDepth 100000 in
theorem c_X12_write {G : vG} (hG : G.1.stackTraces = false) {A : vN → Nat} {g : vS} {r : vH} (u : Int32) (x : Int32) (y : Int32) (z : Int32) (hu0 : 0 ≤ (g 2 0 0).toInt) (hu : (g 2 0 0).toInt ≤ 6) (hg0 : 0 ≤ (g 3 0 0).toInt) (hg : (g 3 0 0).toInt ≤ 5) (hf0 : 0 ≤ (g 4 0 0).toInt) (hf : (g 4 0 0).toInt ≤ 20) (h1 : vM1 g) (h2 : vM2 g) (h3 : vM3 g) (B : Nat) (h7 : vM7 B g) (hB : B ≤ 20000) (hr : vNq r) (hl0 : 0 ≤ (g 11 0 0).toInt) (hl : (g 11 0 0).toInt ≤ 300) : vCt G yX12_write cX12_write 5 (some .int) 5 [.ref (A (40, 0)), .int (u), .int (x), .int (y), .int (z)] A (wm g r) (fun v A2 h2 => v = some (.int (V_X12_write g u x y z)) ∧ vAs 59 59 A2 A ∧ h2 = wm (S_X12_write g u x y z) r) (vNoX) (vPb (S_X12_write g u x y z) - vPb g) (2 * (vPb (S_X12_write g u x y z) - vPb g)) := by
  refine v_of hG (by decide +kernel) (Nat.le_of_ble_eq_true rfl) (lv := [(0, .ref (A (40, 0))), (1, .int (u)), (2, .int (x)), (3, .int (y)), (4, .int (z))]) rfl (fun X C hnx => ?_)
  have C : vC G X cX12_write 5 RX12 (some .int) "write" 5 (vPb (S_X12_write g u x y z) - vPb g) (2 * (vPb (S_X12_write g u x y z) - vPb g)) := C
  refine v_aload_n (pc := 0) C dX12_write_0 0 rfl rfl ?_
  refine v_aload_n (pc := 1) C dX12_write_1 0 rfl rfl ?_
  refine v_iload_n (pc := 2) C dX12_write_2 1 rfl rfl ?_
  refine v_callV (pc := 3) C (40, 0) ck_40 rfl (c_X12_isUser hG (g := g) (u) ) 1 wd_1539 wd_68 wd_1536 wd_1538 wd_36 (by decide +kernel) (by decide) (by decide) rfl ([.ref (A (40, 0))]) rfl (Nat.le_of_ble_eq_true rfl) ⟨Nat.zero_le _, Nat.zero_le _⟩ dX12_write_3 (fun _ _ _ q => q.elim) (fun v9 A9 h9 hR9 => ?_)
  obtain ⟨rfl, hA9, rfl⟩ := hR9
  obtain rfl := hA9.symm
  refine v_st (k2 := 0) (n2 := 0) (st2 := [.int ((V_X12_isUser g (u))), .ref (A (40, 0))]) rfl rfl rfl ?_
  have b_1 := ok_isUser (g := g) (x := u) hu0
  refine v_if_eq (pc := 6) (tgt := 17) C dX12_write_6 (by decide) (fun c_2 => ?_) (fun c_2 => ?_)
  · skip
    refine v_iconst (v := 1) (pc := 17) C dX12_write_17 rfl ?_
    refine v_goto (tgt := 39) (pc := 18) C dX12_write_18 (by decide) ?_
    refine v_callV (pc := 39) C (40, 0) ck_40 rfl (c_X12_isWrong hG (g := g) (1) ) 1 wd_1531 wd_68 wd_1528 wd_1530 wd_35 (by decide +kernel) (by decide) (by decide) rfl ([]) rfl (Nat.le_of_ble_eq_true rfl) ⟨Nat.zero_le _, Nat.zero_le _⟩ dX12_write_39 (fun _ _ _ q => q.elim) (fun v9 A9 h9 hR9 => ?_)
    obtain ⟨rfl, hA9, rfl⟩ := hR9
    obtain rfl := hA9.symm
    refine v_st (k2 := 0) (n2 := 0) (st2 := [.int ((V_X12_isWrong g (1)))]) rfl rfl rfl ?_
    refine v_if_eq (pc := 42) (tgt := 47) C dX12_write_42 (by decide) (fun c_3 => ?_) (fun c_3 => ?_)
    · skip
      exact absurd c_3 (fun q9 => ((show ¬ (1 : Int32) = 0 from by decide)) q9)
    · skip
      refine v_iconst (v := 0) (pc := 45) C dX12_write_45 rfl ?_
      exact v_iret (pc := 46) C (Nat.zero_le _) (Nat.zero_le _) dX12_write_46 ⟨(congrArg (fun q => some (Value.int q)) (by show _ = _; rw [V_X12_write, if_pos c_2])), vAs_r, (congrArg (fun q => wm q r) (by show _ = _; rw [S_X12_write, if_pos c_2]))⟩
  · skip
    refine v_aload_n (pc := 9) C dX12_write_9 0 rfl rfl ?_
    refine v_iload_n (pc := 10) C dX12_write_10 2 rfl rfl ?_
    refine v_callV (pc := 11) C (40, 0) ck_40 rfl (c_X12_isFile hG (g := g) (x) ) 1 wd_1613 wd_68 wd_1610 wd_1612 wd_45 (by decide +kernel) (by decide) (by decide) rfl ([.ref (A (40, 0))]) rfl (Nat.le_of_ble_eq_true rfl) ⟨Nat.zero_le _, Nat.zero_le _⟩ dX12_write_11 (fun _ _ _ q => q.elim) (fun v9 A9 h9 hR9 => ?_)
    obtain ⟨rfl, hA9, rfl⟩ := hR9
    obtain rfl := hA9.symm
    refine v_st (k2 := 0) (n2 := 0) (st2 := [.int ((V_X12_isFile g (x))), .ref (A (40, 0))]) rfl rfl rfl ?_
    have b_4 := ok_isFile (g := g) (x := x) hf0
    refine v_if_ne (pc := 14) (tgt := 21) C dX12_write_14 (by decide) (fun c_5 => ?_) (fun c_5 => ?_)
    · skip
      refine v_iload_n (pc := 21) C dX12_write_21 3 rfl rfl ?_
      refine v_callS (pc := 22) C (c_X12_isPart hG (g := g) (y) ) 1 wd_1616 wd_68 wd_1614 wd_1615 (by decide +kernel) (by decide) (by decide) rfl ([.ref (A (40, 0))]) rfl (Nat.le_of_ble_eq_true rfl) ⟨Nat.zero_le _, Nat.zero_le _⟩ dX12_write_22 (fun _ _ _ q => q.elim) (fun v9 A9 h9 hR9 => ?_)
      obtain ⟨rfl, hA9, rfl⟩ := hR9
      obtain rfl := hA9.symm
      refine v_st (k2 := 0) (n2 := 0) (st2 := [.int ((V_X12_isPart g (y))), .ref (A (40, 0))]) rfl rfl rfl ?_
      have b_6 := ok_isPart (g := g) (x := y)
      refine v_if_ne (pc := 25) (tgt := 32) C dX12_write_25 (by decide) (fun c_7 => ?_) (fun c_7 => ?_)
      · skip
        refine v_aload_n (pc := 32) C dX12_write_32 0 rfl rfl ?_
        refine v_iload_n (pc := 33) C dX12_write_33 1 rfl rfl ?_
        refine v_iload_n (pc := 34) C dX12_write_34 2 rfl rfl ?_
        refine v_iload_n (pc := 35) C dX12_write_35 3 rfl rfl ?_
        refine v_callV (pc := 36) C (40, 0) ck_40 rfl (c_X12_cannotWrite hG (g := g) (u) (x) (y) hu0 hu hg0 hg hf0 hf (by (try simp only [Int32.le_iff_toInt_le, Int32.lt_iff_toInt_lt, ← Int32.toInt_inj, Int32.reduceToInt] at c_2 c_5 c_7 b_1 b_4 b_6 hu hg hf hl0 hl ⊢); omega) (by (try simp only [Int32.le_iff_toInt_le, Int32.lt_iff_toInt_lt, ← Int32.toInt_inj, Int32.reduceToInt] at c_2 c_5 c_7 b_1 b_4 b_6 hu hg hf hl0 hl ⊢); omega) (by (try simp only [Int32.le_iff_toInt_le, Int32.lt_iff_toInt_lt, ← Int32.toInt_inj, Int32.reduceToInt] at c_2 c_5 c_7 b_1 b_4 b_6 hu hg hf hl0 hl ⊢); omega) (by (try simp only [Int32.le_iff_toInt_le, Int32.lt_iff_toInt_lt, ← Int32.toInt_inj, Int32.reduceToInt] at c_2 c_5 c_7 b_1 b_4 b_6 hu hg hf hl0 hl ⊢); omega) (by (try simp only [Int32.le_iff_toInt_le, Int32.lt_iff_toInt_lt, ← Int32.toInt_inj, Int32.reduceToInt] at c_2 c_5 c_7 b_1 b_4 b_6 hu hg hf hl0 hl ⊢); omega) (by (try simp only [Int32.le_iff_toInt_le, Int32.lt_iff_toInt_lt, ← Int32.toInt_inj, Int32.reduceToInt] at c_2 c_5 c_7 b_1 b_4 b_6 hu hg hf hl0 hl ⊢); omega) h1 h2 h3) 3 wd_1620 wd_68 wd_1617 wd_1619 wd_46 (by decide +kernel) (by decide) (by decide) rfl ([.ref (A (40, 0))]) rfl (Nat.le_of_ble_eq_true rfl) ⟨Nat.zero_le _, Nat.zero_le _⟩ dX12_write_36 (fun _ _ _ q => q.elim) (fun v9 A9 h9 hR9 => ?_)
        obtain ⟨rfl, hA9, rfl⟩ := hR9
        obtain rfl := hA9.symm
        refine v_st (k2 := 0) (n2 := 0) (st2 := [.int ((V_X12_cannotWrite g (u) (x) (y))), .ref (A (40, 0))]) rfl rfl rfl ?_
        have b_8 := ok_cannot (g := g) (u := u) (x := x) (y := y)
        refine v_callV (pc := 39) C (40, 0) ck_40 rfl (c_X12_isWrong hG (g := g) ((V_X12_cannotWrite g (u) (x) (y))) ) 1 wd_1531 wd_68 wd_1528 wd_1530 wd_35 (by decide +kernel) (by decide) (by decide) rfl ([]) rfl (Nat.le_of_ble_eq_true rfl) ⟨Nat.zero_le _, Nat.zero_le _⟩ dX12_write_39 (fun _ _ _ q => q.elim) (fun v9 A9 h9 hR9 => ?_)
        obtain ⟨rfl, hA9, rfl⟩ := hR9
        obtain rfl := hA9.symm
        refine v_st (k2 := 0) (n2 := 0) (st2 := [.int ((V_X12_isWrong g ((V_X12_cannotWrite g (u) (x) (y)))))]) rfl rfl rfl ?_
        have b_9 := ok_isw (g := g) (v := (V_X12_cannotWrite g (u) (x) (y)))
        refine v_if_eq (pc := 42) (tgt := 47) C dX12_write_42 (by decide) (fun c_10 => ?_) (fun c_10 => ?_)
        · skip
          refine v_aload_n (pc := 47) C dX12_write_47 0 rfl rfl ?_
          refine v_iload_n (pc := 48) C dX12_write_48 2 rfl rfl ?_
          refine v_iload_n (pc := 49) C dX12_write_49 3 rfl rfl ?_
          refine v_iload (pc := 50) C dX12_write_50 4 rfl ?_
          have hp8 : vPb (S_X12_isWrong g ((V_X12_cannotWrite g (u) (x) (y)))) = vPb g := vPb_k (fun _ _ => F_X12_isWrong (by decide))
          have hpr : vPb (S_X12_write g u x y z) = vPb (S_X12_puts (S_X12_isWrong g ((V_X12_cannotWrite g (u) (x) (y)))) (x) (y) (z)) := congrArg vPb (show S_X12_write g u x y z = (S_X12_puts (S_X12_isWrong g ((V_X12_cannotWrite g (u) (x) (y)))) (x) (y) (z)) from (by rw [S_X12_write, if_neg c_2, if_neg c_5, if_neg c_7, if_pos c_10]))
          refine v_callV (pc := 52) C (40, 0) ck_40 rfl (c_X12_puts hG (g := (S_X12_isWrong g ((V_X12_cannotWrite g (u) (x) (y))))) (x) (y) (z) (by rw [show (S_X12_isWrong g ((V_X12_cannotWrite g (u) (x) (y)))) 2 0 0 = g 2 0 0 from F_X12_isWrong (by decide)]; exact hu0) (by rw [show (S_X12_isWrong g ((V_X12_cannotWrite g (u) (x) (y)))) 2 0 0 = g 2 0 0 from F_X12_isWrong (by decide)]; exact hu) (by rw [show (S_X12_isWrong g ((V_X12_cannotWrite g (u) (x) (y)))) 3 0 0 = g 3 0 0 from F_X12_isWrong (by decide)]; exact hg0) (by rw [show (S_X12_isWrong g ((V_X12_cannotWrite g (u) (x) (y)))) 3 0 0 = g 3 0 0 from F_X12_isWrong (by decide)]; exact hg) (by rw [show (S_X12_isWrong g ((V_X12_cannotWrite g (u) (x) (y)))) 4 0 0 = g 4 0 0 from F_X12_isWrong (by decide)]; exact hf0) (by rw [show (S_X12_isWrong g ((V_X12_cannotWrite g (u) (x) (y)))) 4 0 0 = g 4 0 0 from F_X12_isWrong (by decide)]; exact hf) (by (try simp only [Int32.le_iff_toInt_le, Int32.lt_iff_toInt_lt, ← Int32.toInt_inj, Int32.reduceToInt] at c_2 c_5 c_7 c_10 b_1 b_4 b_6 b_8 b_9 hu hg hf hl0 hl ⊢); omega) (by (try simp only [Int32.le_iff_toInt_le, Int32.lt_iff_toInt_lt, ← Int32.toInt_inj, Int32.reduceToInt] at c_2 c_5 c_7 c_10 b_1 b_4 b_6 b_8 b_9 hu hg hf hl0 hl ⊢); omega) (by (try simp only [Int32.le_iff_toInt_le, Int32.lt_iff_toInt_lt, ← Int32.toInt_inj, Int32.reduceToInt] at c_2 c_5 c_7 c_10 b_1 b_4 b_6 b_8 b_9 hu hg hf hl0 hl ⊢); omega) (by (try simp only [Int32.le_iff_toInt_le, Int32.lt_iff_toInt_lt, ← Int32.toInt_inj, Int32.reduceToInt] at c_2 c_5 c_7 c_10 b_1 b_4 b_6 b_8 b_9 hu hg hf hl0 hl ⊢); omega) (vM1_k (fun _ _ => F_X12_isWrong (by decide)) h1) (vM2_k (fun _ _ => F_X12_isWrong (by decide)) (fun _ _ => F_X12_isWrong (by decide)) h2) (vM3_k (fun _ _ => F_X12_isWrong (by decide)) (fun _ _ => F_X12_isWrong (by decide)) h3) B (vM7_k (fun _ _ => F_X12_isWrong (by decide)) (fun _ _ => F_X12_isWrong (by decide)) h7) hB hr (by rw [show (S_X12_isWrong g ((V_X12_cannotWrite g (u) (x) (y)))) 11 0 0 = g 11 0 0 from F_X12_isWrong (by decide)]; exact hl0) (by (try simp only [Int32.le_iff_toInt_le, Int32.lt_iff_toInt_lt, ← Int32.toInt_inj, Int32.reduceToInt] at c_2 c_5 c_7 c_10 b_1 b_4 b_6 b_8 b_9 hu hg hf hl0 hl); rw [show (S_X12_isWrong g ((V_X12_cannotWrite g (u) (x) (y)))) 11 0 0 = g 11 0 0 from F_X12_isWrong (by decide)]; omega)) 3 wd_1632 wd_68 wd_1629 wd_1631 wd_49 (by decide +kernel) (by decide) (by decide) rfl ([]) rfl (Nat.le_of_ble_eq_true rfl) ⟨by omega, by omega⟩ dX12_write_52 (fun _ _ _ q => q.elim) (fun v9 A_11 h9 hR9 => ?_)
          obtain ⟨rfl, hA_11, rfl⟩ := hR9
          refine v_st (k2 := (0 + (vPb (S_X12_puts (S_X12_isWrong g ((V_X12_cannotWrite g (u) (x) (y)))) (x) (y) (z)) - vPb (S_X12_isWrong g ((V_X12_cannotWrite g (u) (x) (y))))))) (n2 := (0 + (2 * (vPb (S_X12_puts (S_X12_isWrong g ((V_X12_cannotWrite g (u) (x) (y)))) (x) (y) (z)) - vPb (S_X12_isWrong g ((V_X12_cannotWrite g (u) (x) (y)))))))) (st2 := [.int ((V_X12_puts (S_X12_isWrong g ((V_X12_cannotWrite g (u) (x) (y)))) (x) (y) (z)))]) rfl rfl rfl ?_
          refine v_lve (lv2 := [(0, .ref (A_11 (40, 0))), (1, .int (u)), (2, .int (x)), (3, .int (y)), (4, .int (z))]) (by rw [(hA_11 (40, 0) (Or.inl (by show 40 < 59; decide)))]) ?_
          exact v_iret (pc := 55) C (by omega) (by omega) dX12_write_55 ⟨(congrArg (fun q => some (Value.int q)) (by show _ = _; rw [V_X12_write, if_neg c_2, if_neg c_5, if_neg c_7, if_pos c_10])), (vAs_w hA_11 (by decide) (by decide)), (congrArg (fun q => wm q r) (by show _ = _; rw [S_X12_write, if_neg c_2, if_neg c_5, if_neg c_7, if_pos c_10]))⟩
        · skip
          refine v_iconst (v := 0) (pc := 45) C dX12_write_45 rfl ?_
          exact v_iret (pc := 46) C (Nat.zero_le _) (Nat.zero_le _) dX12_write_46 ⟨(congrArg (fun q => some (Value.int q)) (by show _ = _; rw [V_X12_write, if_neg c_2, if_neg c_5, if_neg c_7, if_neg c_10])), vAs_r, (congrArg (fun q => wm q r) (by show _ = _; rw [S_X12_write, if_neg c_2, if_neg c_5, if_neg c_7, if_neg c_10]))⟩
      · skip
        refine v_iconst (v := 2) (pc := 28) C dX12_write_28 rfl ?_
        refine v_goto (tgt := 39) (pc := 29) C dX12_write_29 (by decide) ?_
        refine v_callV (pc := 39) C (40, 0) ck_40 rfl (c_X12_isWrong hG (g := g) (2) ) 1 wd_1531 wd_68 wd_1528 wd_1530 wd_35 (by decide +kernel) (by decide) (by decide) rfl ([]) rfl (Nat.le_of_ble_eq_true rfl) ⟨Nat.zero_le _, Nat.zero_le _⟩ dX12_write_39 (fun _ _ _ q => q.elim) (fun v9 A9 h9 hR9 => ?_)
        obtain ⟨rfl, hA9, rfl⟩ := hR9
        obtain rfl := hA9.symm
        refine v_st (k2 := 0) (n2 := 0) (st2 := [.int ((V_X12_isWrong g (2)))]) rfl rfl rfl ?_
        refine v_if_eq (pc := 42) (tgt := 47) C dX12_write_42 (by decide) (fun c_12 => ?_) (fun c_12 => ?_)
        · skip
          exact absurd c_12 (fun q9 => ((show ¬ (1 : Int32) = 0 from by decide)) q9)
        · skip
          refine v_iconst (v := 0) (pc := 45) C dX12_write_45 rfl ?_
          exact v_iret (pc := 46) C (Nat.zero_le _) (Nat.zero_le _) dX12_write_46 ⟨(congrArg (fun q => some (Value.int q)) (by show _ = _; rw [V_X12_write, if_neg c_2, if_neg c_5, if_pos c_7])), vAs_r, (congrArg (fun q => wm q r) (by show _ = _; rw [S_X12_write, if_neg c_2, if_neg c_5, if_pos c_7]))⟩
    · skip
      refine v_iconst (v := 1) (pc := 17) C dX12_write_17 rfl ?_
      refine v_goto (tgt := 39) (pc := 18) C dX12_write_18 (by decide) ?_
      refine v_callV (pc := 39) C (40, 0) ck_40 rfl (c_X12_isWrong hG (g := g) (1) ) 1 wd_1531 wd_68 wd_1528 wd_1530 wd_35 (by decide +kernel) (by decide) (by decide) rfl ([]) rfl (Nat.le_of_ble_eq_true rfl) ⟨Nat.zero_le _, Nat.zero_le _⟩ dX12_write_39 (fun _ _ _ q => q.elim) (fun v9 A9 h9 hR9 => ?_)
      obtain ⟨rfl, hA9, rfl⟩ := hR9
      obtain rfl := hA9.symm
      refine v_st (k2 := 0) (n2 := 0) (st2 := [.int ((V_X12_isWrong g (1)))]) rfl rfl rfl ?_
      refine v_if_eq (pc := 42) (tgt := 47) C dX12_write_42 (by decide) (fun c_13 => ?_) (fun c_13 => ?_)
      · skip
        exact absurd c_13 (fun q9 => ((show ¬ (1 : Int32) = 0 from by decide)) q9)
      · skip
        refine v_iconst (v := 0) (pc := 45) C dX12_write_45 rfl ?_
        exact v_iret (pc := 46) C (Nat.zero_le _) (Nat.zero_le _) dX12_write_46 ⟨(congrArg (fun q => some (Value.int q)) (by show _ = _; rw [V_X12_write, if_neg c_2, if_pos c_5])), vAs_r, (congrArg (fun q => wm q r) (by show _ = _; rw [S_X12_write, if_neg c_2, if_pos c_5]))⟩
