
/-- no file was turned more than B times, and no row of beginnings is longer than that asks -/
def vM7 (B : Nat) (g : vS) : Prop := ∀ f : Nat, (g 56 f 0).toInt ≤ B ∧ (g 13 f 0).toNatClampNeg ≤ 2 * B + 8
theorem vM7_k {B : Nat} {g G : vS} (h : ∀ i j, G 56 i j = g 56 i j) (h2 : ∀ i j, G 13 i j = g 13 i j) (q : vM7 B g) : vM7 B G := fun f => by rw [h, h2]; exact q f
theorem vM7_le {B C : Nat} {g : vS} (h : B ≤ C) (q : vM7 B g) : vM7 C g := fun f => by have := q f; exact ⟨by omega, by omega⟩
/-- the lengths of the rows of beginnings in all -/
def vPs (g : vS) : Nat → Nat
  | 0 => 0
  | n + 1 => vPs g n + (g 13 n 0).toNatClampNeg
def vPb (g : vS) : Nat := vPs g 20
theorem vPs_k {g G : vS} (h : ∀ i j, G 13 i j = g 13 i j) : ∀ n, vPs G n = vPs g n := by
  intro n
  induction n with
  | zero => rfl
  | succ n ih => simp only [vPs, ih, h]
theorem vPb_k {g G : vS} (h : ∀ i j, G 13 i j = g 13 i j) : vPb G = vPb g := vPs_k h 20
theorem vPs_gB {g : vS} {f : Nat} (hL : (g 13 f 0).toNatClampNeg ≤ 100000) : ∀ n, vPs (gB g f) n = vPs g n + if f < n then (g 13 f 0).toNatClampNeg else 0 := by
  intro n
  induction n with
  | zero => rfl
  | succ n ih =>
    simp only [vPs, ih]
    by_cases q : n = f
    · subst q
      rw [gB_13, nI_clamp (by omega), if_neg (by omega), if_pos (by omega)]
      omega
    · rw [gB_13n q]
      by_cases q2 : f < n
      · rw [if_pos q2, if_pos (by omega)]; omega
      · rw [if_neg q2, if_neg (by omega)]; omega
theorem vPb_gB {g : vS} {f : Nat} (hf : f < 20) (hL : (g 13 f 0).toNatClampNeg ≤ 100000) : vPb (gB g f) = vPb g + (g 13 f 0).toNatClampNeg := by
  show vPs _ 20 = vPs _ 20 + _
  rw [vPs_gB hL, if_pos hf]
theorem inb_a {v : Int32} {L : Nat} (h : 0 ≤ v.toInt ∧ v.toInt < (L : Int)) (hL : L ≤ 100000) (c : ¬ v + 1 = nI L) : vp_in (v + 1) L := by
  have e : (v + 1).toInt = v.toInt + 1 := i32_add1 (by omega)
  have q : (v + 1).toInt ≠ (L : Int) := fun z => c (Int32.toInt_inj.mp (z.trans (nI_toInt (by omega)).symm))
  simp only [vp_in_iff]
  omega
theorem inb_b {v : Int32} {L : Nat} (h : 0 ≤ v.toInt ∧ v.toInt < (L : Int)) (hL : L ≤ 100000) (c : v + 1 = nI L) : vp_in (v + 1) (nI (2 * L)).toNatClampNeg := by
  have e : (v + 1).toInt = v.toInt + 1 := i32_add1 (by omega)
  have q : (v + 1).toInt = (L : Int) := by rw [c]; exact nI_toInt (by omega)
  rw [nI_clamp (by omega)]
  simp only [vp_in_iff]
  omega

def S_X12_turns (g : vS) (x : Int32) : vS := (if ((g 56 (x).toNatClampNeg 0) + 1) = nI (((s3 g 56 (x).toNatClampNeg 0 (((g 56 (x).toNatClampNeg 0) + 1))) 13 (x).toNatClampNeg 0).toNatClampNeg) then (s3 (gB (s3 g 56 (x).toNatClampNeg 0 (((g 56 (x).toNatClampNeg 0) + 1))) (x).toNatClampNeg) 59 (x).toNatClampNeg (((g 56 (x).toNatClampNeg 0) + 1)).toNatClampNeg ((g 50 ((g 55 (x).toNatClampNeg 0)).toNatClampNeg 0))) else (s3 (s3 g 56 (x).toNatClampNeg 0 (((g 56 (x).toNatClampNeg 0) + 1))) 59 (x).toNatClampNeg (((g 56 (x).toNatClampNeg 0) + 1)).toNatClampNeg ((g 50 ((g 55 (x).toNatClampNeg 0)).toNatClampNeg 0))))
theorem F_X12_turns {g : vS} {x : Int32} {c i j : Nat} (h13 : c ≠ 13) (h56 : c ≠ 56) (h59 : c ≠ 59) : S_X12_turns g x c i j = g c i j := by
  unfold S_X12_turns
  (repeat' split) <;> first | rfl | ((simp only [s3_k h13, s3_k h56, s3_k h59, F_gB h13 h59]) <;> first | done | rfl)

theorem vPb_turns1 {g : vS} {x : Int32} (hx : (x).toNatClampNeg < 20) (hL : (g 13 (x).toNatClampNeg 0).toNatClampNeg ≤ 100000) (c : ((g 56 (x).toNatClampNeg 0) + 1) = nI (((s3 g 56 (x).toNatClampNeg 0 (((g 56 (x).toNatClampNeg 0) + 1))) 13 (x).toNatClampNeg 0).toNatClampNeg)) : vPb (S_X12_turns g x) = vPb g + (g 13 (x).toNatClampNeg 0).toNatClampNeg := by
  unfold S_X12_turns
  rw [if_pos c, vPb_k (fun i j => s3_k (by decide)), vPb_gB hx (by rw [s3_k (by decide)]; exact hL), vPb_k (fun i j => s3_k (by decide)), s3_k (by decide)]
theorem vPb_turns0 {g : vS} {x : Int32} (c : ¬ (((g 56 (x).toNatClampNeg 0) + 1) = nI (((s3 g 56 (x).toNatClampNeg 0 (((g 56 (x).toNatClampNeg 0) + 1))) 13 (x).toNatClampNeg 0).toNatClampNeg))) : vPb (S_X12_turns g x) = vPb g := by
  unfold S_X12_turns
  rw [if_neg c, vPb_k (fun i j => s3_k (by decide)), vPb_k (fun i j => s3_k (by decide))]
theorem vPb_turns {g : vS} {x : Int32} (hx : (x).toNatClampNeg < 20) (hL : (g 13 (x).toNatClampNeg 0).toNatClampNeg ≤ 100000) : vPb g ≤ vPb (S_X12_turns g x) := by
  by_cases c : (((g 56 (x).toNatClampNeg 0) + 1) = nI (((s3 g 56 (x).toNatClampNeg 0 (((g 56 (x).toNatClampNeg 0) + 1))) 13 (x).toNatClampNeg 0).toNatClampNeg))
  · rw [vPb_turns1 hx hL c]; omega
  · rw [vPb_turns0 c]; omega
theorem M2_turns {B : Nat} {g : vS} {x : Int32} (h2 : vM2 g) (h7 : vM7 B g) (hB : B ≤ 20000) : vM2 (S_X12_turns g x) ∧ vM7 (B + 1) (S_X12_turns g x) := by
  have a := h2 (x).toNatClampNeg
  have b := h7 (x).toNatClampNeg
  have e : ((g 56 (x).toNatClampNeg 0) + 1).toInt = (g 56 (x).toNatClampNeg 0).toInt + 1 := i32_add1 (by omega)
  have k : ∀ i, (0 ≤ (S_X12_turns g x 56 i 0).toInt ∧ (S_X12_turns g x 56 i 0).toInt < ((S_X12_turns g x 13 i 0).toNatClampNeg : Int)) ∧ ((S_X12_turns g x 56 i 0).toInt ≤ ((B + 1 : Nat) : Int) ∧ (S_X12_turns g x 13 i 0).toNatClampNeg ≤ 2 * (B + 1) + 8) := by
    intro i
    have ai := h2 i
    have bi := h7 i
    unfold S_X12_turns
    split
    · rename_i c
      rw [s3_k (by decide), s3_k (by decide), F_gB (by decide) (by decide)]
      have q : (g 56 (x).toNatClampNeg 0).toInt + 1 = ((g 13 (x).toNatClampNeg 0).toNatClampNeg : Int) := by
        rw [← e, c, s3_k (by decide)]; exact nI_toInt (by omega)
      by_cases hi : i = (x).toNatClampNeg
      · subst hi
        rw [s3_s, gB_13, s3_k (by decide), nI_clamp (by omega), e]
        omega
      · rw [s3_i hi, gB_13n hi, s3_k (by decide)]
        omega
    · rename_i c
      rw [s3_k (k' := 56) (k := 59) (by decide), s3_k (k' := 13) (k := 59) (by decide), s3_k (k' := 13) (k := 56) (by decide)]
      by_cases hi : i = (x).toNatClampNeg
      · subst hi
        rw [s3_s, e]
        have q : (g 56 (x).toNatClampNeg 0).toInt + 1 ≠ ((g 13 (x).toNatClampNeg 0).toNatClampNeg : Int) := fun z => c (Int32.toInt_inj.mp (by rw [e, z, s3_k (by decide)]; exact (nI_toInt (by omega)).symm))
        omega
      · rw [s3_i hi]
        omega
  exact ⟨fun i => (k i).1, fun i => (k i).2⟩
theorem M3_turns {g : vS} {x : Int32} (h2 : vM2 g) (h3 : vM3 g) (hL : (g 13 (x).toNatClampNeg 0).toNatClampNeg ≤ 100000) : vM3 (S_X12_turns g x) := fun i p => by
  have a := h2 (x).toNatClampNeg
  have e : ((g 56 (x).toNatClampNeg 0) + 1).toInt = (g 56 (x).toNatClampNeg 0).toInt + 1 := i32_add1 (by omega)
  have b := h3 i p
  rw [F_X12_turns (by decide) (by decide) (by decide)]
  have q : S_X12_turns g x 56 i 0 = s3 g 56 (x).toNatClampNeg 0 ((g 56 (x).toNatClampNeg 0) + 1) 56 i 0 := by
    unfold S_X12_turns
    split
    · rw [s3_k (by decide), F_gB (by decide) (by decide)]
    · rw [s3_k (by decide)]
  rw [q]
  by_cases hi : i = (x).toNatClampNeg
  · subst hi; rw [s3_s, e]; omega
  · rw [s3_i hi]; exact b

set_option maxHeartbeats 4000000 in
set_option maxRecDepth 100000 in
theorem c_X12_turns {G : vG} (hG : G.1.stackTraces = false) {A : vN → Nat} {g : vS} {r : vH} (x : Int32) (hu0 : 0 ≤ (g 2 0 0).toInt) (hu : (g 2 0 0).toInt ≤ 6) (hg0 : 0 ≤ (g 3 0 0).toInt) (hg : (g 3 0 0).toInt ≤ 5) (hf0 : 0 ≤ (g 4 0 0).toInt) (hf : (g 4 0 0).toInt ≤ 20) (x_0 : 0 ≤ (x).toInt) (x_N : (x).toInt < 20) (h1 : vM1 g) (h2 : vM2 g) (h3 : vM3 g) (B : Nat) (h7 : vM7 B g) (hB : B ≤ 20000) (hr : vNq r) : vCt G yX12_turns cX12_turns 4 none 0 [.ref (A (40, 0)), .int (x)] A (wm g r) (fun v A2 h2 => v = none ∧ vAs 59 59 A2 A ∧ h2 = wm (S_X12_turns g x) r) (vNoX) (vPb (S_X12_turns g x) - vPb g) (2 * (vPb (S_X12_turns g x) - vPb g)) := by
  refine v_of hG (by decide +kernel) (Nat.le_of_ble_eq_true rfl) (lv := [(0, .ref (A (40, 0))), (1, .int (x))]) rfl (fun X C hnx => ?_)
  have C : vC G X cX12_turns 4 RX12 none "turns" 0 (vPb (S_X12_turns g x) - vPb g) (2 * (vPb (S_X12_turns g x) - vPb g)) := C
  refine v_aload_n (pc := 0) C dX12_turns_0 0 rfl rfl ?_
  refine v_get (pc := 1) C (40, 0) (v := .ref (A (56, 0))) ck_40 rfl 16 (by decide) inX12 wd_1404 rfl rfl dX12_turns_1 ?_
  refine v_iload_n (pc := 4) C dX12_turns_4 1 rfl rfl ?_
  refine v_dup2_11 (pc := 5) C dX12_turns_5 rfl rfl ?_
  refine v_iald (pc := 6) C (56, 0) (v := (g 56 (x).toNatClampNeg 0)) ck_56 (by (try simp only [Int32.le_iff_toInt_le, Int32.lt_iff_toInt_lt, ← Int32.toInt_inj, vp_in_iff, Int32.reduceToInt] at hu hg hf x_0 x_N ⊢) <;> omega) rfl dX12_turns_6 ?_
  have b_1 := h2 (x).toNatClampNeg
  refine v_iconst (v := 1) (pc := 7) C dX12_turns_7 rfl ?_
  refine v_iadd (pc := 8) C dX12_turns_8 ?_
  refine v_iast (pc := 9) C (56, 0) (x := ((g 56 (x).toNatClampNeg 0) + 1)) ck_56 (by (try simp only [Int32.le_iff_toInt_le, Int32.lt_iff_toInt_lt, ← Int32.toInt_inj, vp_in_iff, Int32.reduceToInt] at b_1 hu hg hf x_0 x_N ⊢) <;> omega) dX12_turns_9 ?_
  refine v_h (h2 := (wm (s3 g 56 (x).toNatClampNeg 0 (((g 56 (x).toNatClampNeg 0) + 1))) r)) (u_56_a) ?_
  refine v_aload_n (pc := 10) C dX12_turns_10 0 rfl rfl ?_
  refine v_get (pc := 11) C (40, 0) (v := .ref (A (56, 0))) ck_40 rfl 16 (by decide) inX12 wd_1404 rfl rfl dX12_turns_11 ?_
  refine v_iload_n (pc := 14) C dX12_turns_14 1 rfl rfl ?_
  refine v_iald (pc := 15) C (56, 0) (v := ((g 56 (x).toNatClampNeg 0) + 1)) ck_56 (by (try simp only [Int32.le_iff_toInt_le, Int32.lt_iff_toInt_lt, ← Int32.toInt_inj, vp_in_iff, Int32.reduceToInt] at b_1 hu hg hf x_0 x_N ⊢) <;> omega) (s3_s) dX12_turns_15 ?_
  refine v_aload_n (pc := 16) C dX12_turns_16 0 rfl rfl ?_
  refine v_get (pc := 17) C (40, 0) (v := .ref (A (58, 0))) ck_40 rfl 18 (by decide) inX12 wd_1406 rfl rfl dX12_turns_17 ?_
  refine v_iload_n (pc := 20) C dX12_turns_20 1 rfl rfl ?_
  refine v_aald (pc := 21) C (58, 0) ck_58 rfl rfl (by (try simp only [Int32.le_iff_toInt_le, Int32.lt_iff_toInt_lt, ← Int32.toInt_inj, vp_in_iff, Int32.reduceToInt] at b_1 hu hg hf x_0 x_N ⊢) <;> omega) (59, (x).toNatClampNeg) rfl dX12_turns_21 ?_
  refine v_alen (pc := 22) C (59, (x).toNatClampNeg) (v := nI (((s3 g 56 (x).toNatClampNeg 0 (((g 56 (x).toNatClampNeg 0) + 1))) 13 (x).toNatClampNeg 0).toNatClampNeg)) (ck_59 (g := (s3 g 56 (x).toNatClampNeg 0 (((g 56 (x).toNatClampNeg 0) + 1)))) (tn_lt (by (try simp only [Int32.le_iff_toInt_le, Int32.lt_iff_toInt_lt, ← Int32.toInt_inj, Int32.reduceToInt] at b_1 hu hg hf x_0 x_N ⊢); omega))) rfl rfl dX12_turns_22 ?_
  refine v_icmp_ne (pc := 23) (tgt := 73) C dX12_turns_23 (by decide) (fun c_2 => ?_) (fun c_2 => ?_)
  · skip
    refine v_aload_n (pc := 73) C dX12_turns_73 0 rfl rfl ?_
    refine v_get (pc := 74) C (40, 0) (v := .ref (A (58, 0))) ck_40 rfl 18 (by decide) inX12 wd_1406 rfl rfl dX12_turns_74 ?_
    refine v_iload_n (pc := 77) C dX12_turns_77 1 rfl rfl ?_
    refine v_aald (pc := 78) C (58, 0) ck_58 rfl rfl (by (try simp only [Int32.le_iff_toInt_le, Int32.lt_iff_toInt_lt, ← Int32.toInt_inj, vp_in_iff, Int32.reduceToInt] at c_2 b_1 hu hg hf x_0 x_N ⊢) <;> omega) (59, (x).toNatClampNeg) rfl dX12_turns_78 ?_
    refine v_aload_n (pc := 79) C dX12_turns_79 0 rfl rfl ?_
    refine v_get (pc := 80) C (40, 0) (v := .ref (A (56, 0))) ck_40 rfl 16 (by decide) inX12 wd_1404 rfl rfl dX12_turns_80 ?_
    refine v_iload_n (pc := 83) C dX12_turns_83 1 rfl rfl ?_
    refine v_iald (pc := 84) C (56, 0) (v := ((g 56 (x).toNatClampNeg 0) + 1)) ck_56 (by (try simp only [Int32.le_iff_toInt_le, Int32.lt_iff_toInt_lt, ← Int32.toInt_inj, vp_in_iff, Int32.reduceToInt] at c_2 b_1 hu hg hf x_0 x_N ⊢) <;> omega) (s3_s) dX12_turns_84 ?_
    refine v_aload_n (pc := 85) C dX12_turns_85 0 rfl rfl ?_
    refine v_get (pc := 86) C (40, 0) (v := .ref (A (50, 0))) ck_40 rfl 10 (by decide) inX12 wd_1398 rfl rfl dX12_turns_86 ?_
    refine v_aload_n (pc := 89) C dX12_turns_89 0 rfl rfl ?_
    refine v_get (pc := 90) C (40, 0) (v := .ref (A (55, 0))) ck_40 rfl 15 (by decide) inX12 wd_1403 rfl rfl dX12_turns_90 ?_
    refine v_iload_n (pc := 93) C dX12_turns_93 1 rfl rfl ?_
    refine v_iald (pc := 94) C (55, 0) (v := (g 55 (x).toNatClampNeg 0)) ck_55 (by (try simp only [Int32.le_iff_toInt_le, Int32.lt_iff_toInt_lt, ← Int32.toInt_inj, vp_in_iff, Int32.reduceToInt] at c_2 b_1 hu hg hf x_0 x_N ⊢) <;> omega) rfl dX12_turns_94 ?_
    have b_3 := h1 (x).toNatClampNeg
    refine v_iald (pc := 95) C (50, 0) (v := (g 50 ((g 55 (x).toNatClampNeg 0)).toNatClampNeg 0)) ck_50 (by (try simp only [Int32.le_iff_toInt_le, Int32.lt_iff_toInt_lt, ← Int32.toInt_inj, vp_in_iff, Int32.reduceToInt] at c_2 b_1 b_3 hu hg hf x_0 x_N ⊢) <;> omega) rfl dX12_turns_95 ?_
    refine v_iast (pc := 96) C (59, (x).toNatClampNeg) (x := (g 50 ((g 55 (x).toNatClampNeg 0)).toNatClampNeg 0)) (ck_59 (g := (s3 g 56 (x).toNatClampNeg 0 (((g 56 (x).toNatClampNeg 0) + 1)))) (tn_lt (by (try simp only [Int32.le_iff_toInt_le, Int32.lt_iff_toInt_lt, ← Int32.toInt_inj, Int32.reduceToInt] at b_1 hu hg hf x_0 x_N ⊢); omega))) (inb_a (by rw [s3_k (by decide)]; exact h2 (x).toNatClampNeg) (by rw [s3_k (by decide)]; exact (by have := (h7 (x).toNatClampNeg).2; omega)) c_2) dX12_turns_96 ?_
    refine v_h (h2 := (wm (s3 (s3 g 56 (x).toNatClampNeg 0 (((g 56 (x).toNatClampNeg 0) + 1))) 59 (x).toNatClampNeg (((g 56 (x).toNatClampNeg 0) + 1)).toNatClampNeg ((g 50 ((g 55 (x).toNatClampNeg 0)).toNatClampNeg 0))) r)) (u_59_a (g := (s3 g 56 (x).toNatClampNeg 0 (((g 56 (x).toNatClampNeg 0) + 1)))) (tn_lt (by (try simp only [Int32.le_iff_toInt_le, Int32.lt_iff_toInt_lt, ← Int32.toInt_inj, Int32.reduceToInt] at c_2 b_1 b_3 hu hg hf x_0 x_N ⊢); omega))) ?_
    exact v_vret (pc := 97) C (Nat.zero_le _) (Nat.zero_le _) dX12_turns_97 ⟨rfl, vAs_r, (congrArg (fun q => wm q r) (by show _ = _; rw [S_X12_turns, if_neg c_2]))⟩
  · skip
    have hp9 := vPb_turns1 (g := g) (x := x) (tn_lt x_N) (by have := (h7 (x).toNatClampNeg).2; omega) c_2
    have hp8 := h2 (x).toNatClampNeg
    have hroom : 0 + 1 ≤ (vPb (S_X12_turns g x) - vPb g) ∧ 0 + 2 * (g 13 (x).toNatClampNeg 0).toNatClampNeg ≤ 2 * (vPb (S_X12_turns g x) - vPb g) := by rw [hp9]; exact ⟨by omega, by omega⟩
    refine tb_turns (g := (s3 g 56 (x).toNatClampNeg 0 (((g 56 (x).toNatClampNeg 0) + 1)))) C x x_0 x_N (s3_s.trans c_2) (by rw [s3_k (by decide)]; exact (by have := (h7 (x).toNatClampNeg).2; omega)) hr hroom.1 (by rw [s3_k (by decide)]; exact hroom.2) (fun A_1 hA_1 => ?_)
    refine v_st (k2 := (0 + 1)) (n2 := (0 + 2 * (g 13 (x).toNatClampNeg 0).toNatClampNeg)) (st2 := []) rfl (by rw [s3_k (by decide)]) rfl ?_
    refine v_aload_n (pc := 73) C dX12_turns_73 0 rfl rfl ?_
    refine v_get (pc := 74) C (40, 0) (v := .ref (A_1 (58, 0))) ck_40 rfl 18 (by decide) inX12 wd_1406 rfl rfl dX12_turns_74 ?_
    refine v_iload_n (pc := 77) C dX12_turns_77 1 rfl rfl ?_
    refine v_aald (pc := 78) C (58, 0) ck_58 rfl rfl (by (try simp only [Int32.le_iff_toInt_le, Int32.lt_iff_toInt_lt, ← Int32.toInt_inj, vp_in_iff, Int32.reduceToInt] at c_2 b_1 hu hg hf x_0 x_N ⊢) <;> omega) (59, (x).toNatClampNeg) rfl dX12_turns_78 ?_
    refine v_aload_n (pc := 79) C dX12_turns_79 0 rfl rfl ?_
    refine v_get (pc := 80) C (40, 0) (v := .ref (A_1 (56, 0))) ck_40 rfl 16 (by decide) inX12 wd_1404 rfl rfl dX12_turns_80 ?_
    refine v_iload_n (pc := 83) C dX12_turns_83 1 rfl rfl ?_
    refine v_iald (pc := 84) C (56, 0) (v := ((g 56 (x).toNatClampNeg 0) + 1)) ck_56 (by (try simp only [Int32.le_iff_toInt_le, Int32.lt_iff_toInt_lt, ← Int32.toInt_inj, vp_in_iff, Int32.reduceToInt] at c_2 b_1 hu hg hf x_0 x_N ⊢) <;> omega) ((F_gB (by decide) (by decide)).trans (s3_s)) dX12_turns_84 ?_
    refine v_aload_n (pc := 85) C dX12_turns_85 0 rfl rfl ?_
    refine v_get (pc := 86) C (40, 0) (v := .ref (A_1 (50, 0))) ck_40 rfl 10 (by decide) inX12 wd_1398 rfl rfl dX12_turns_86 ?_
    refine v_aload_n (pc := 89) C dX12_turns_89 0 rfl rfl ?_
    refine v_get (pc := 90) C (40, 0) (v := .ref (A_1 (55, 0))) ck_40 rfl 15 (by decide) inX12 wd_1403 rfl rfl dX12_turns_90 ?_
    refine v_iload_n (pc := 93) C dX12_turns_93 1 rfl rfl ?_
    refine v_iald (pc := 94) C (55, 0) (v := (g 55 (x).toNatClampNeg 0)) ck_55 (by (try simp only [Int32.le_iff_toInt_le, Int32.lt_iff_toInt_lt, ← Int32.toInt_inj, vp_in_iff, Int32.reduceToInt] at c_2 b_1 hu hg hf x_0 x_N ⊢) <;> omega) ((F_gB (by decide) (by decide)).trans (s3_k (by decide))) dX12_turns_94 ?_
    have b_4 := h1 (x).toNatClampNeg
    refine v_iald (pc := 95) C (50, 0) (v := (g 50 ((g 55 (x).toNatClampNeg 0)).toNatClampNeg 0)) ck_50 (by (try simp only [Int32.le_iff_toInt_le, Int32.lt_iff_toInt_lt, ← Int32.toInt_inj, vp_in_iff, Int32.reduceToInt] at c_2 b_1 b_4 hu hg hf x_0 x_N ⊢) <;> omega) ((F_gB (by decide) (by decide)).trans (s3_k (by decide))) dX12_turns_95 ?_
    refine v_iast (pc := 96) C (59, (x).toNatClampNeg) (x := (g 50 ((g 55 (x).toNatClampNeg 0)).toNatClampNeg 0)) (ck_59 (g := (gB (s3 g 56 (x).toNatClampNeg 0 (((g 56 (x).toNatClampNeg 0) + 1))) (x).toNatClampNeg)) (tn_lt (by (try simp only [Int32.le_iff_toInt_le, Int32.lt_iff_toInt_lt, ← Int32.toInt_inj, Int32.reduceToInt] at c_2 b_1 b_4 hu hg hf x_0 x_N ⊢); omega))) (by rw [gB_13]; exact inb_b (by rw [s3_k (by decide)]; exact h2 (x).toNatClampNeg) (by rw [s3_k (by decide)]; exact (by have := (h7 (x).toNatClampNeg).2; omega)) c_2) dX12_turns_96 ?_
    refine v_h (h2 := (wm (s3 (gB (s3 g 56 (x).toNatClampNeg 0 (((g 56 (x).toNatClampNeg 0) + 1))) (x).toNatClampNeg) 59 (x).toNatClampNeg (((g 56 (x).toNatClampNeg 0) + 1)).toNatClampNeg ((g 50 ((g 55 (x).toNatClampNeg 0)).toNatClampNeg 0))) r)) (u_59_a (g := (gB (s3 g 56 (x).toNatClampNeg 0 (((g 56 (x).toNatClampNeg 0) + 1))) (x).toNatClampNeg)) (tn_lt (by (try simp only [Int32.le_iff_toInt_le, Int32.lt_iff_toInt_lt, ← Int32.toInt_inj, Int32.reduceToInt] at c_2 b_1 b_4 hu hg hf x_0 x_N ⊢); omega))) ?_
    exact v_vret (pc := 97) C hroom.1 hroom.2 dX12_turns_97 ⟨rfl, (vAs_w hA_1 (by decide) (by decide)), (congrArg (fun q => wm q r) (by show _ = _; rw [S_X12_turns, if_pos c_2]))⟩
