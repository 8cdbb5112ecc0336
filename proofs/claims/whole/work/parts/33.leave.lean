theorem and_bit0 {x : Int32} (h : x = 0 ∨ x = 1) : x &&& 0 = 0 ∨ x &&& 0 = 1 := by rcases h with rfl | rfl <;> decide
theorem and_bit1 {x : Int32} (h : x = 0 ∨ x = 1) : x &&& 1 = 0 ∨ x &&& 1 = 1 := by rcases h with rfl | rfl <;> decide
def VL_X12_leave_173 (g : vS) (x : Int32) (u : Int32) (z : Int32) (i_118 : Nat) (x_118_4 : Int32) (q_118 : vS) (K : Nat → Int32 → vS → Int32) : Nat → Nat → Int32 → vS → Int32
  | 0, _, _, _ => 0
  | n + 1, i_173, x_173_4, q_173 => (if 8 ≤ nI i_173 then (K (i_118 + 1) (x_173_4) (s3 q_173 57 i_118 0 ((V_X12_markOf q_173 (nI i_118))))) else (if (g 63 i_118 i_173) = 0 then (VL_X12_leave_173 g x u z i_118 x_118_4 q_118 K n (i_173 + 1) (x_173_4) q_173) else (VL_X12_leave_173 g x u z i_118 x_118_4 q_118 K n (i_173 + 1) ((x_173_4 + 1)) (S_X12_lays q_173 (nI i_118) (nI i_173) ((q_173 67 i_118 i_173))))))
def SL_X12_leave_173 (g : vS) (x : Int32) (u : Int32) (z : Int32) (i_118 : Nat) (x_118_4 : Int32) (q_118 : vS) (K : Nat → Int32 → vS → vS) : Nat → Nat → Int32 → vS → vS
  | 0, _, _, q9 => q9
  | n + 1, i_173, x_173_4, q_173 => (if 8 ≤ nI i_173 then (K (i_118 + 1) (x_173_4) (s3 q_173 57 i_118 0 ((V_X12_markOf q_173 (nI i_118))))) else (if (g 63 i_118 i_173) = 0 then (SL_X12_leave_173 g x u z i_118 x_118_4 q_118 K n (i_173 + 1) (x_173_4) q_173) else (SL_X12_leave_173 g x u z i_118 x_118_4 q_118 K n (i_173 + 1) ((x_173_4 + 1)) (S_X12_lays q_173 (nI i_118) (nI i_173) ((q_173 67 i_118 i_173))))))
def VL_X12_leave_118 (g : vS) (x : Int32) (u : Int32) (z : Int32) : Nat → Nat → Int32 → vS → Int32
  | 0, _, _, _ => 0
  | n + 1, i_118, x_118_4, q_118 => (if z = 0 then x_118_4 else (if (g 4 0 0) ≤ nI i_118 then x_118_4 else (if (g 55 i_118 0) = x then (if (g 68 i_118 0) = 0 then (if (V_X12_isSpoiled q_118 (nI i_118)) = 0 then (VL_X12_leave_173 g x u z i_118 x_118_4 q_118 (VL_X12_leave_118 g x u z n) (8 + 1) 0 (x_118_4) (S_X12_turns q_118 (nI i_118))) else (VL_X12_leave_118 g x u z n (i_118 + 1) (x_118_4) q_118)) else (VL_X12_leave_118 g x u z n (i_118 + 1) (x_118_4) q_118)) else (VL_X12_leave_118 g x u z n (i_118 + 1) (x_118_4) q_118))))
def SL_X12_leave_118 (g : vS) (x : Int32) (u : Int32) (z : Int32) : Nat → Nat → Int32 → vS → vS
  | 0, _, _, q9 => q9
  | n + 1, i_118, x_118_4, q_118 => (if z = 0 then q_118 else (if (g 4 0 0) ≤ nI i_118 then q_118 else (if (g 55 i_118 0) = x then (if (g 68 i_118 0) = 0 then (if (V_X12_isSpoiled q_118 (nI i_118)) = 0 then (SL_X12_leave_173 g x u z i_118 x_118_4 q_118 (SL_X12_leave_118 g x u z n) (8 + 1) 0 (x_118_4) (S_X12_turns q_118 (nI i_118))) else (SL_X12_leave_118 g x u z n (i_118 + 1) (x_118_4) q_118)) else (SL_X12_leave_118 g x u z n (i_118 + 1) (x_118_4) q_118)) else (SL_X12_leave_118 g x u z n (i_118 + 1) (x_118_4) q_118))))
def V_X12_leave (g : vS) (x : Int32) (u : Int32) (z : Int32) : Int32 := (if (V_X12_isGroup g (x)) = 0 then 0 else (if (V_X12_isUser g (u)) = 0 then 0 else (if (g 52 (x).toNatClampNeg (u).toNatClampNeg) = 0 then 0 else (if (g 48 (x).toNatClampNeg 0) = u then 0 else (if (V_X12_isFull g) = 0 then (VL_X12_leave_118 g x u z (20 + 1) 0 (0) (S_X12_adds (s3 (s3 (s3 (S_X12_isWrong g (0)) 54 (x).toNatClampNeg (u).toNatClampNeg ((g 50 (x).toNatClampNeg 0))) 52 (x).toNatClampNeg (u).toNatClampNeg (0)) 50 (x).toNatClampNeg 0 (((g 50 (x).toNatClampNeg 0) + 1))) (pMix ((200 + x)) (u)))) else 0)))))
def S_X12_leave (g : vS) (x : Int32) (u : Int32) (z : Int32) : vS := (if (V_X12_isGroup g (x)) = 0 then (S_X12_isWrong g (1)) else (if (V_X12_isUser g (u)) = 0 then (S_X12_isWrong g (1)) else (if (g 52 (x).toNatClampNeg (u).toNatClampNeg) = 0 then (S_X12_isWrong g (1)) else (if (g 48 (x).toNatClampNeg 0) = u then (S_X12_isWrong g (2)) else (if (V_X12_isFull g) = 0 then (SL_X12_leave_118 g x u z (20 + 1) 0 (0) (S_X12_adds (s3 (s3 (s3 (S_X12_isWrong g (0)) 54 (x).toNatClampNeg (u).toNatClampNeg ((g 50 (x).toNatClampNeg 0))) 52 (x).toNatClampNeg (u).toNatClampNeg (0)) 50 (x).toNatClampNeg 0 (((g 50 (x).toNatClampNeg 0) + 1))) (pMix ((200 + x)) (u)))) else (S_X12_isWrong g (3)))))))
theorem FL_X12_leave_173 {g : vS} {x : Int32} {u : Int32} {z : Int32} {i_118 : Nat} {x_118_4 : Int32} {q_118 : vS} {K : Nat → Int32 → vS → vS} {c i j : Nat} (h1 : c ≠ 1) (h11 : c ≠ 11) (h13 : c ≠ 13) (h50 : c ≠ 50) (h52 : c ≠ 52) (h54 : c ≠ 54) (h56 : c ≠ 56) (h57 : c ≠ 57) (h59 : c ≠ 59) (h61 : c ≠ 61) (h65 : c ≠ 65) (h67 : c ≠ 67) (h73 : c ≠ 73) (hK : ∀ (b0 : Nat) (b1 : Int32) (b2 : vS), b2 c i j = g c i j → K b0 b1 b2 c i j = g c i j) : ∀ (n : Nat) (a0 : Nat) (a1 : Int32) (a2 : vS), a2 c i j = g c i j → SL_X12_leave_173 g x u z i_118 x_118_4 q_118 K n a0 a1 a2 c i j = g c i j := by
  intro n
  induction n with
  | zero => intro a0 a1 a2 hq9; exact hq9
  | succ n ih =>
    intro a0 a1 a2 hq9
    simp only [SL_X12_leave_173]
    (repeat' split) <;> first | rfl | exact hq9 | (apply ih; first | exact hq9 | rfl | trivial | ((simp only [s3_k h1, s3_k h11, s3_k h13, s3_k h50, s3_k h52, s3_k h54, s3_k h56, s3_k h57, s3_k h59, s3_k h61, s3_k h65, s3_k h67, s3_k h73, F_X12_adds h11 h73, F_X12_isWrong h1, F_X12_lays h61 h65 h67, F_X12_turns h13 h56 h59]) <;> first | done | exact hq9 | rfl)) | (apply hK; first | exact hq9 | rfl | ((try simp only [s3_k h1, s3_k h11, s3_k h13, s3_k h50, s3_k h52, s3_k h54, s3_k h56, s3_k h57, s3_k h59, s3_k h61, s3_k h65, s3_k h67, s3_k h73, F_X12_adds h11 h73, F_X12_isWrong h1, F_X12_lays h61 h65 h67, F_X12_turns h13 h56 h59]) <;> first | exact hq9 | rfl)) | ((simp only [s3_k h1, s3_k h11, s3_k h13, s3_k h50, s3_k h52, s3_k h54, s3_k h56, s3_k h57, s3_k h59, s3_k h61, s3_k h65, s3_k h67, s3_k h73, F_X12_adds h11 h73, F_X12_isWrong h1, F_X12_lays h61 h65 h67, F_X12_turns h13 h56 h59]) <;> first | done | exact hq9 | rfl)
theorem FL_X12_leave_118 {g : vS} {x : Int32} {u : Int32} {z : Int32} {c i j : Nat} (h1 : c ≠ 1) (h11 : c ≠ 11) (h13 : c ≠ 13) (h50 : c ≠ 50) (h52 : c ≠ 52) (h54 : c ≠ 54) (h56 : c ≠ 56) (h57 : c ≠ 57) (h59 : c ≠ 59) (h61 : c ≠ 61) (h65 : c ≠ 65) (h67 : c ≠ 67) (h73 : c ≠ 73) : ∀ (n : Nat) (a0 : Nat) (a1 : Int32) (a2 : vS), a2 c i j = g c i j → SL_X12_leave_118 g x u z n a0 a1 a2 c i j = g c i j := by
  intro n
  induction n with
  | zero => intro a0 a1 a2 hq9; exact hq9
  | succ n ih =>
    intro a0 a1 a2 hq9
    simp only [SL_X12_leave_118]
    (repeat' split) <;> first | rfl | exact hq9 | (apply ih; first | exact hq9 | rfl | trivial | ((simp only [s3_k h1, s3_k h11, s3_k h13, s3_k h50, s3_k h52, s3_k h54, s3_k h56, s3_k h57, s3_k h59, s3_k h61, s3_k h65, s3_k h67, s3_k h73, F_X12_adds h11 h73, F_X12_isWrong h1, F_X12_lays h61 h65 h67, F_X12_turns h13 h56 h59]) <;> first | done | exact hq9 | rfl)) | (apply FL_X12_leave_173 h1 h11 h13 h50 h52 h54 h56 h57 h59 h61 h65 h67 h73 (fun b0 b1 b2 h9 => ih b0 b1 b2 h9); first | exact hq9 | rfl | ((try simp only [s3_k h1, s3_k h11, s3_k h13, s3_k h50, s3_k h52, s3_k h54, s3_k h56, s3_k h57, s3_k h59, s3_k h61, s3_k h65, s3_k h67, s3_k h73, F_X12_adds h11 h73, F_X12_isWrong h1, F_X12_lays h61 h65 h67, F_X12_turns h13 h56 h59]) <;> first | exact hq9 | rfl)) | ((simp only [s3_k h1, s3_k h11, s3_k h13, s3_k h50, s3_k h52, s3_k h54, s3_k h56, s3_k h57, s3_k h59, s3_k h61, s3_k h65, s3_k h67, s3_k h73, F_X12_adds h11 h73, F_X12_isWrong h1, F_X12_lays h61 h65 h67, F_X12_turns h13 h56 h59]) <;> first | done | exact hq9 | rfl)
theorem F_X12_leave {g : vS} {x : Int32} {u : Int32} {z : Int32} {c i j : Nat} (h1 : c ≠ 1) (h11 : c ≠ 11) (h13 : c ≠ 13) (h50 : c ≠ 50) (h52 : c ≠ 52) (h54 : c ≠ 54) (h56 : c ≠ 56) (h57 : c ≠ 57) (h59 : c ≠ 59) (h61 : c ≠ 61) (h65 : c ≠ 65) (h67 : c ≠ 67) (h73 : c ≠ 73) : S_X12_leave g x u z c i j = g c i j := by
  unfold S_X12_leave
  (repeat' split) <;> first | rfl | (apply FL_X12_leave_173 h1 h11 h13 h50 h52 h54 h56 h57 h59 h61 h65 h67 h73; first | rfl | trivial | ((simp only [s3_k h1, s3_k h11, s3_k h13, s3_k h50, s3_k h52, s3_k h54, s3_k h56, s3_k h57, s3_k h59, s3_k h61, s3_k h65, s3_k h67, s3_k h73, F_X12_adds h11 h73, F_X12_isWrong h1, F_X12_lays h61 h65 h67, F_X12_turns h13 h56 h59]) <;> first | done | rfl)) | (apply FL_X12_leave_118 h1 h11 h13 h50 h52 h54 h56 h57 h59 h61 h65 h67 h73; first | rfl | trivial | ((simp only [s3_k h1, s3_k h11, s3_k h13, s3_k h50, s3_k h52, s3_k h54, s3_k h56, s3_k h57, s3_k h59, s3_k h61, s3_k h65, s3_k h67, s3_k h73, F_X12_adds h11 h73, F_X12_isWrong h1, F_X12_lays h61 h65 h67, F_X12_turns h13 h56 h59]) <;> first | done | rfl)) | ((simp only [s3_k h1, s3_k h11, s3_k h13, s3_k h50, s3_k h52, s3_k h54, s3_k h56, s3_k h57, s3_k h59, s3_k h61, s3_k h65, s3_k h67, s3_k h73, F_X12_adds h11 h73, F_X12_isWrong h1, F_X12_lays h61 h65 h67, F_X12_turns h13 h56 h59]) <;> first | done | rfl)

theorem mono_lv2 {C : Nat} {g : vS} {x u z : Int32} {i0 : Nat} {x0 : Int32} {q0 : vS} {K : Nat → Int32 → vS → vS} (hK : ∀ (b : Int32) (q : vS), vM1 q → vM2 q → vM3 q → vM7 C q → vPb q ≤ vPb (K (i0 + 1) b q)) : ∀ (n i : Nat) (y : Int32) (q : vS), vM1 q → vM2 q → vM3 q → vM7 C q → vPb q ≤ vPb (SL_X12_leave_173 g x u z i0 x0 q0 K n i y q) := by
  intro n
  induction n with
  | zero => intro i y q h1 h2 h3 h7; exact Nat.le_refl _
  | succ n ih =>
    intro i y q h1 h2 h3 h7
    have Kx : ∀ (a : Int32) (b : Int32) (k : Nat), vPb q ≤ vPb (K (i0 + 1) b (s3 q 57 k 0 a)) := fun a b k => Nat.le_trans (Nat.le_of_eq (vPb_k (fun i j => s3_k (by decide))).symm) (hK b _ (vM1_k (fun i j => s3_k (by decide)) h1) (vM2_k (fun i j => s3_k (by decide)) (fun i j => s3_k (by decide)) h2) (vM3_k (fun i j => s3_k (by decide)) (fun i j => s3_k (by decide)) h3) (vM7_k (fun i j => s3_k (by decide)) (fun i j => s3_k (by decide)) h7))
    have Ky : ∀ (a b c y' : Int32) (k : Nat), vPb q ≤ vPb (SL_X12_leave_173 g x u z i0 x0 q0 K n k y' (S_X12_lays q a b c)) := fun a b c y' k => Nat.le_trans (Nat.le_of_eq (vPb_k (fun i j => F_X12_lays (by decide) (by decide) (by decide))).symm) (ih k y' _ (vM1_k (fun i j => F_X12_lays (by decide) (by decide) (by decide)) h1) (vM2_k (fun i j => F_X12_lays (by decide) (by decide) (by decide)) (fun i j => F_X12_lays (by decide) (by decide) (by decide)) h2) (M3_lays h2 h3) (vM7_k (fun i j => F_X12_lays (by decide) (by decide) (by decide)) (fun i j => F_X12_lays (by decide) (by decide) (by decide)) h7))
    simp only [SL_X12_leave_173]
    split
    · exact Kx _ _ _
    · split
      · exact ih _ _ _ h1 h2 h3 h7
      · exact Ky _ _ _ _ _
theorem mono_lv {B : Nat} {g : vS} {x u z : Int32} (hB : B ≤ 19000) (hf : (g 4 0 0).toInt ≤ 20) : ∀ (n i : Nat) (y : Int32) (q : vS), i ≤ 20 → vM1 q → vM2 q → vM3 q → vM7 (B + i) q → vPb q ≤ vPb (SL_X12_leave_118 g x u z n i y q) := by
  intro n
  induction n with
  | zero => intro i y q hi h1 h2 h3 h7; exact Nat.le_refl _
  | succ n ih =>
    intro i y q hi h1 h2 h3 h7
    simp only [SL_X12_leave_118]
    by_cases c0 : z = 0
    · rw [if_pos c0]
      exact Nat.le_refl _
    rw [if_neg c0]
    by_cases c : (g 4 0 0) ≤ nI i
    · rw [if_pos c]
      exact Nat.le_refl _
    rw [if_neg c]
    rw [Int32.le_iff_toInt_le, nI_toInt (by omega)] at c
    have e1 : (nI i).toNatClampNeg = i := nI_clamp (by omega)
    have hL : (q 13 (nI i).toNatClampNeg 0).toNatClampNeg ≤ 100000 := by have := (h7 (nI i).toNatClampNeg).2; omega
    have K1 : ∀ y' : Int32, vPb q ≤ vPb (SL_X12_leave_118 g x u z n (i + 1) y' q) := fun y' => ih (i + 1) y' q (by omega) h1 h2 h3 (vM7_le (by omega) h7)
    have m := M2_turns (x := nI i) h2 h7 (by omega)
    have m3 := M3_turns (x := nI i) h2 h3 hL
    have m1 : vM1 (S_X12_turns q (nI i)) := vM1_k (fun i j => F_X12_turns (by decide) (by decide) (by decide)) h1
    have K2 : ∀ (a : Nat) (y' : Int32), vPb q ≤ vPb (SL_X12_leave_173 g x u z i y q (SL_X12_leave_118 g x u z n) a 0 y' (S_X12_turns q (nI i))) := fun a y' => Nat.le_trans (vPb_turns (by rw [e1]; omega) hL) (mono_lv2 (C := B + i + 1) (fun b q' k1 k2 k3 k7 => ih (i + 1) b q' (by omega) k1 k2 k3 k7) a 0 y' _ m1 m.1 m3 m.2)
    split
    · split
      · split
        · exact K2 _ _
        · exact K1 _
      · exact K1 _
    · exact K1 _

set_option maxHeartbeats 4000000 in
set_option maxRecDepth 100000 in
theorem c_X12_leave {G : vG} (hG : G.1.stackTraces = false) {A : vN → Nat} {g : vS} {r : vH} (x : Int32) (u : Int32) (z : Int32) (hu0 : 0 ≤ (g 2 0 0).toInt) (hu : (g 2 0 0).toInt ≤ 6) (hg0 : 0 ≤ (g 3 0 0).toInt) (hg : (g 3 0 0).toInt ≤ 5) (hf0 : 0 ≤ (g 4 0 0).toInt) (hf : (g 4 0 0).toInt ≤ 20) (h1 : vM1 g) (h2 : vM2 g) (h3 : vM3 g) (B : Nat) (h7 : vM7 B g) (hB : B ≤ 19000) (hr : vNq r) (hl0 : 0 ≤ (g 11 0 0).toInt) (hl : (g 11 0 0).toInt ≤ 300) : vCt G yX12_leave cX12_leave 7 (some .int) 4 [.ref (A (40, 0)), .int (x), .int (u), .int (z)] A (wm g r) (fun v A2 h2 => v = some (.int (V_X12_leave g x u z)) ∧ vAs 59 59 A2 A ∧ h2 = wm (S_X12_leave g x u z) r) (vNoX) (vPb (S_X12_leave g x u z) - vPb g) (2 * (vPb (S_X12_leave g x u z) - vPb g)) := by
  refine v_of hG (by decide +kernel) (Nat.le_of_ble_eq_true rfl) (lv := [(0, .ref (A (40, 0))), (1, .int (x)), (2, .int (u)), (3, .int (z))]) rfl (fun X C hnx => ?_)
  have C : vC G X cX12_leave 7 RX12 (some .int) "leave" 4 (vPb (S_X12_leave g x u z) - vPb g) (2 * (vPb (S_X12_leave g x u z) - vPb g)) := C
  refine v_aload_n (pc := 0) C dX12_leave_0 0 rfl rfl ?_
  refine v_aload_n (pc := 1) C dX12_leave_1 0 rfl rfl ?_
  refine v_iload_n (pc := 2) C dX12_leave_2 1 rfl rfl ?_
  refine v_callV (pc := 3) C (40, 0) ck_40 rfl (c_X12_isGroup hG (g := g) (x) ) 1 wd_1547 wd_68 wd_1544 wd_1546 wd_37 (by decide +kernel) (by decide) (by decide) rfl ([.ref (A (40, 0))]) rfl (Nat.le_of_ble_eq_true rfl) ⟨Nat.zero_le _, Nat.zero_le _⟩ dX12_leave_3 (fun _ _ _ q => q.elim) (fun v9 A9 h9 hR9 => ?_)
  obtain ⟨rfl, hA9, rfl⟩ := hR9
  obtain rfl := hA9.symm
  refine v_st (k2 := 0) (n2 := 0) (st2 := [.int ((V_X12_isGroup g (x))), .ref (A (40, 0))]) rfl rfl rfl ?_
  have b_1 := ok_isGroup (g := g) (x := x) hg0
  refine v_if_eq (pc := 6) (tgt := 28) C dX12_leave_6 (by decide) (fun c_2 => ?_) (fun c_2 => ?_)
  · skip
    refine v_iconst (v := 1) (pc := 28) C dX12_leave_28 rfl ?_
    refine v_goto (tgt := 58) (pc := 29) C dX12_leave_29 (by decide) ?_
    refine v_callV (pc := 58) C (40, 0) ck_40 rfl (c_X12_isWrong hG (g := g) (1) ) 1 wd_1531 wd_68 wd_1528 wd_1530 wd_35 (by decide +kernel) (by decide) (by decide) rfl ([]) rfl (Nat.le_of_ble_eq_true rfl) ⟨Nat.zero_le _, Nat.zero_le _⟩ dX12_leave_58 (fun _ _ _ q => q.elim) (fun v9 A9 h9 hR9 => ?_)
    obtain ⟨rfl, hA9, rfl⟩ := hR9
    obtain rfl := hA9.symm
    refine v_st (k2 := 0) (n2 := 0) (st2 := [.int ((V_X12_isWrong g (1)))]) rfl rfl rfl ?_
    refine v_if_eq (pc := 61) (tgt := 66) C dX12_leave_61 (by decide) (fun c_3 => ?_) (fun c_3 => ?_)
    · skip
      exact absurd c_3 (fun q9 => ((show ¬ (1 : Int32) = 0 from by decide)) q9)
    · skip
      refine v_iconst (v := 0) (pc := 64) C dX12_leave_64 rfl ?_
      exact v_iret (pc := 65) C (Nat.zero_le _) (Nat.zero_le _) dX12_leave_65 ⟨(congrArg (fun q => some (Value.int q)) (by show _ = _; rw [V_X12_leave, if_pos c_2])), vAs_r, (congrArg (fun q => wm q r) (by show _ = _; rw [S_X12_leave, if_pos c_2]))⟩
  · skip
    refine v_aload_n (pc := 9) C dX12_leave_9 0 rfl rfl ?_
    refine v_iload_n (pc := 10) C dX12_leave_10 2 rfl rfl ?_
    refine v_callV (pc := 11) C (40, 0) ck_40 rfl (c_X12_isUser hG (g := g) (u) ) 1 wd_1539 wd_68 wd_1536 wd_1538 wd_36 (by decide +kernel) (by decide) (by decide) rfl ([.ref (A (40, 0))]) rfl (Nat.le_of_ble_eq_true rfl) ⟨Nat.zero_le _, Nat.zero_le _⟩ dX12_leave_11 (fun _ _ _ q => q.elim) (fun v9 A9 h9 hR9 => ?_)
    obtain ⟨rfl, hA9, rfl⟩ := hR9
    obtain rfl := hA9.symm
    refine v_st (k2 := 0) (n2 := 0) (st2 := [.int ((V_X12_isUser g (u))), .ref (A (40, 0))]) rfl rfl rfl ?_
    have b_4 := ok_isUser (g := g) (x := u) hu0
    refine v_if_eq (pc := 14) (tgt := 28) C dX12_leave_14 (by decide) (fun c_5 => ?_) (fun c_5 => ?_)
    · skip
      refine v_iconst (v := 1) (pc := 28) C dX12_leave_28 rfl ?_
      refine v_goto (tgt := 58) (pc := 29) C dX12_leave_29 (by decide) ?_
      refine v_callV (pc := 58) C (40, 0) ck_40 rfl (c_X12_isWrong hG (g := g) (1) ) 1 wd_1531 wd_68 wd_1528 wd_1530 wd_35 (by decide +kernel) (by decide) (by decide) rfl ([]) rfl (Nat.le_of_ble_eq_true rfl) ⟨Nat.zero_le _, Nat.zero_le _⟩ dX12_leave_58 (fun _ _ _ q => q.elim) (fun v9 A9 h9 hR9 => ?_)
      obtain ⟨rfl, hA9, rfl⟩ := hR9
      obtain rfl := hA9.symm
      refine v_st (k2 := 0) (n2 := 0) (st2 := [.int ((V_X12_isWrong g (1)))]) rfl rfl rfl ?_
      refine v_if_eq (pc := 61) (tgt := 66) C dX12_leave_61 (by decide) (fun c_6 => ?_) (fun c_6 => ?_)
      · skip
        exact absurd c_6 (fun q9 => ((show ¬ (1 : Int32) = 0 from by decide)) q9)
      · skip
        refine v_iconst (v := 0) (pc := 64) C dX12_leave_64 rfl ?_
        exact v_iret (pc := 65) C (Nat.zero_le _) (Nat.zero_le _) dX12_leave_65 ⟨(congrArg (fun q => some (Value.int q)) (by show _ = _; rw [V_X12_leave, if_neg c_2, if_pos c_5])), vAs_r, (congrArg (fun q => wm q r) (by show _ = _; rw [S_X12_leave, if_neg c_2, if_pos c_5]))⟩
    · skip
      refine v_aload_n (pc := 17) C dX12_leave_17 0 rfl rfl ?_
      refine v_get (pc := 18) C (40, 0) (v := .ref (A (51, 0))) ck_40 rfl 11 (by decide) inX12 wd_1399 rfl rfl dX12_leave_18 ?_
      refine v_iload_n (pc := 21) C dX12_leave_21 1 rfl rfl ?_
      refine v_aald (pc := 22) C (51, 0) ck_51 rfl rfl (by (try simp only [Int32.le_iff_toInt_le, Int32.lt_iff_toInt_lt, ← Int32.toInt_inj, vp_in_iff, Int32.reduceToInt] at c_2 c_5 b_1 b_4 hu hg hf hl0 hl ⊢) <;> omega) (52, (x).toNatClampNeg) rfl dX12_leave_22 ?_
      refine v_iload_n (pc := 23) C dX12_leave_23 2 rfl rfl ?_
      refine v_zald (pc := 24) C (52, (x).toNatClampNeg) (v := (g 52 (x).toNatClampNeg (u).toNatClampNeg)) (ck_52 (g := g) (tn_lt (by (try simp only [Int32.le_iff_toInt_le, Int32.lt_iff_toInt_lt, ← Int32.toInt_inj, Int32.reduceToInt] at c_2 c_5 b_1 b_4 hu hg hf hl0 hl ⊢); omega))) (by (try simp only [Int32.le_iff_toInt_le, Int32.lt_iff_toInt_lt, ← Int32.toInt_inj, vp_in_iff, Int32.reduceToInt] at c_2 c_5 b_1 b_4 hu hg hf hl0 hl ⊢) <;> omega) rfl dX12_leave_24 ?_
      refine v_if_ne (pc := 25) (tgt := 32) C dX12_leave_25 (by decide) (fun c_7 => ?_) (fun c_7 => ?_)
      · skip
        refine v_aload_n (pc := 32) C dX12_leave_32 0 rfl rfl ?_
        refine v_get (pc := 33) C (40, 0) (v := .ref (A (48, 0))) ck_40 rfl 8 (by decide) inX12 wd_1396 rfl rfl dX12_leave_33 ?_
        refine v_iload_n (pc := 36) C dX12_leave_36 1 rfl rfl ?_
        refine v_iald (pc := 37) C (48, 0) (v := (g 48 (x).toNatClampNeg 0)) ck_48 (by (try simp only [Int32.le_iff_toInt_le, Int32.lt_iff_toInt_lt, ← Int32.toInt_inj, vp_in_iff, Int32.reduceToInt] at c_2 c_5 c_7 b_1 b_4 hu hg hf hl0 hl ⊢) <;> omega) rfl dX12_leave_37 ?_
        refine v_iload_n (pc := 38) C dX12_leave_38 2 rfl rfl ?_
        refine v_icmp_ne (pc := 39) (tgt := 46) C dX12_leave_39 (by decide) (fun c_8 => ?_) (fun c_8 => ?_)
        · skip
          refine v_aload_n (pc := 46) C dX12_leave_46 0 rfl rfl ?_
          refine v_callV (pc := 47) C (40, 0) ck_40 rfl (c_X12_isFull hG (g := g)  ) 0 wd_1551 wd_68 wd_1548 wd_1550 wd_38 (by decide +kernel) (by decide) (by decide) rfl ([.ref (A (40, 0))]) rfl (Nat.le_of_ble_eq_true rfl) ⟨Nat.zero_le _, Nat.zero_le _⟩ dX12_leave_47 (fun _ _ _ q => q.elim) (fun v9 A9 h9 hR9 => ?_)
          obtain ⟨rfl, hA9, rfl⟩ := hR9
          obtain rfl := hA9.symm
          refine v_st (k2 := 0) (n2 := 0) (st2 := [.int ((V_X12_isFull g)), .ref (A (40, 0))]) rfl rfl rfl ?_
          have b_9 := ok_isFull (g := g)
          refine v_if_eq (pc := 50) (tgt := 57) C dX12_leave_50 (by decide) (fun c_10 => ?_) (fun c_10 => ?_)
          · skip
            refine v_iconst (v := 0) (pc := 57) C dX12_leave_57 rfl ?_
            refine v_callV (pc := 58) C (40, 0) ck_40 rfl (c_X12_isWrong hG (g := g) (0) ) 1 wd_1531 wd_68 wd_1528 wd_1530 wd_35 (by decide +kernel) (by decide) (by decide) rfl ([]) rfl (Nat.le_of_ble_eq_true rfl) ⟨Nat.zero_le _, Nat.zero_le _⟩ dX12_leave_58 (fun _ _ _ q => q.elim) (fun v9 A9 h9 hR9 => ?_)
            obtain ⟨rfl, hA9, rfl⟩ := hR9
            obtain rfl := hA9.symm
            refine v_st (k2 := 0) (n2 := 0) (st2 := [.int ((V_X12_isWrong g (0)))]) rfl rfl rfl ?_
            refine v_if_eq (pc := 61) (tgt := 66) C dX12_leave_61 (by decide) (fun c_11 => ?_) (fun c_11 => ?_)
            · skip
              refine v_aload_n (pc := 66) C dX12_leave_66 0 rfl rfl ?_
              refine v_get (pc := 67) C (40, 0) (v := .ref (A (53, 0))) ck_40 rfl 12 (by decide) inX12 wd_1400 rfl rfl dX12_leave_67 ?_
              refine v_iload_n (pc := 70) C dX12_leave_70 1 rfl rfl ?_
              refine v_aald (pc := 71) C (53, 0) ck_53 rfl rfl (by (try simp only [Int32.le_iff_toInt_le, Int32.lt_iff_toInt_lt, ← Int32.toInt_inj, vp_in_iff, Int32.reduceToInt] at c_2 c_5 c_7 c_8 c_10 c_11 b_1 b_4 b_9 hu hg hf hl0 hl ⊢) <;> omega) (54, (x).toNatClampNeg) rfl dX12_leave_71 ?_
              refine v_iload_n (pc := 72) C dX12_leave_72 2 rfl rfl ?_
              refine v_aload_n (pc := 73) C dX12_leave_73 0 rfl rfl ?_
              refine v_get (pc := 74) C (40, 0) (v := .ref (A (50, 0))) ck_40 rfl 10 (by decide) inX12 wd_1398 rfl rfl dX12_leave_74 ?_
              refine v_iload_n (pc := 77) C dX12_leave_77 1 rfl rfl ?_
              refine v_iald (pc := 78) C (50, 0) (v := (g 50 (x).toNatClampNeg 0)) ck_50 (by (try simp only [Int32.le_iff_toInt_le, Int32.lt_iff_toInt_lt, ← Int32.toInt_inj, vp_in_iff, Int32.reduceToInt] at c_2 c_5 c_7 c_8 c_10 c_11 b_1 b_4 b_9 hu hg hf hl0 hl ⊢) <;> omega) (F_X12_isWrong (by decide)) dX12_leave_78 ?_
              refine v_iast (pc := 79) C (54, (x).toNatClampNeg) (x := (g 50 (x).toNatClampNeg 0)) (ck_54 (g := (S_X12_isWrong g (0))) (tn_lt (by (try simp only [Int32.le_iff_toInt_le, Int32.lt_iff_toInt_lt, ← Int32.toInt_inj, Int32.reduceToInt] at c_2 c_5 c_7 c_8 c_10 c_11 b_1 b_4 b_9 hu hg hf hl0 hl ⊢); omega))) (by (try simp only [Int32.le_iff_toInt_le, Int32.lt_iff_toInt_lt, ← Int32.toInt_inj, vp_in_iff, Int32.reduceToInt] at c_2 c_5 c_7 c_8 c_10 c_11 b_1 b_4 b_9 hu hg hf hl0 hl ⊢) <;> omega) dX12_leave_79 ?_
              refine v_h (h2 := (wm (s3 (S_X12_isWrong g (0)) 54 (x).toNatClampNeg (u).toNatClampNeg ((g 50 (x).toNatClampNeg 0))) r)) (u_54_a (g := (S_X12_isWrong g (0))) (tn_lt (by (try simp only [Int32.le_iff_toInt_le, Int32.lt_iff_toInt_lt, ← Int32.toInt_inj, Int32.reduceToInt] at c_2 c_5 c_7 c_8 c_10 c_11 b_1 b_4 b_9 hu hg hf hl0 hl ⊢); omega))) ?_
              refine v_aload_n (pc := 80) C dX12_leave_80 0 rfl rfl ?_
              refine v_get (pc := 81) C (40, 0) (v := .ref (A (51, 0))) ck_40 rfl 11 (by decide) inX12 wd_1399 rfl rfl dX12_leave_81 ?_
              refine v_iload_n (pc := 84) C dX12_leave_84 1 rfl rfl ?_
              refine v_aald (pc := 85) C (51, 0) ck_51 rfl rfl (by (try simp only [Int32.le_iff_toInt_le, Int32.lt_iff_toInt_lt, ← Int32.toInt_inj, vp_in_iff, Int32.reduceToInt] at c_2 c_5 c_7 c_8 c_10 c_11 b_1 b_4 b_9 hu hg hf hl0 hl ⊢) <;> omega) (52, (x).toNatClampNeg) rfl dX12_leave_85 ?_
              refine v_iload_n (pc := 86) C dX12_leave_86 2 rfl rfl ?_
              refine v_iconst (v := 0) (pc := 87) C dX12_leave_87 rfl ?_
              refine v_zast (pc := 88) C (52, (x).toNatClampNeg) (x := 0) (ck_52 (g := (s3 (S_X12_isWrong g (0)) 54 (x).toNatClampNeg (u).toNatClampNeg ((g 50 (x).toNatClampNeg 0)))) (tn_lt (by (try simp only [Int32.le_iff_toInt_le, Int32.lt_iff_toInt_lt, ← Int32.toInt_inj, Int32.reduceToInt] at c_2 c_5 c_7 c_8 c_10 c_11 b_1 b_4 b_9 hu hg hf hl0 hl ⊢); omega))) (by (try simp only [Int32.le_iff_toInt_le, Int32.lt_iff_toInt_lt, ← Int32.toInt_inj, vp_in_iff, Int32.reduceToInt] at c_2 c_5 c_7 c_8 c_10 c_11 b_1 b_4 b_9 hu hg hf hl0 hl ⊢) <;> omega) (by decide) dX12_leave_88 ?_
              refine v_h (h2 := (wm (s3 (s3 (S_X12_isWrong g (0)) 54 (x).toNatClampNeg (u).toNatClampNeg ((g 50 (x).toNatClampNeg 0))) 52 (x).toNatClampNeg (u).toNatClampNeg (0)) r)) (u_52_a (g := (s3 (S_X12_isWrong g (0)) 54 (x).toNatClampNeg (u).toNatClampNeg ((g 50 (x).toNatClampNeg 0)))) (tn_lt (by (try simp only [Int32.le_iff_toInt_le, Int32.lt_iff_toInt_lt, ← Int32.toInt_inj, Int32.reduceToInt] at c_2 c_5 c_7 c_8 c_10 c_11 b_1 b_4 b_9 hu hg hf hl0 hl ⊢); omega))) ?_
              refine v_aload_n (pc := 89) C dX12_leave_89 0 rfl rfl ?_
              refine v_get (pc := 90) C (40, 0) (v := .ref (A (50, 0))) ck_40 rfl 10 (by decide) inX12 wd_1398 rfl rfl dX12_leave_90 ?_
              refine v_iload_n (pc := 93) C dX12_leave_93 1 rfl rfl ?_
              refine v_dup2_11 (pc := 94) C dX12_leave_94 rfl rfl ?_
              refine v_iald (pc := 95) C (50, 0) (v := (g 50 (x).toNatClampNeg 0)) ck_50 (by (try simp only [Int32.le_iff_toInt_le, Int32.lt_iff_toInt_lt, ← Int32.toInt_inj, vp_in_iff, Int32.reduceToInt] at c_2 c_5 c_7 c_8 c_10 c_11 b_1 b_4 b_9 hu hg hf hl0 hl ⊢) <;> omega) ((s3_k (by decide)).trans ((s3_k (by decide)).trans (F_X12_isWrong (by decide)))) dX12_leave_95 ?_
              refine v_iconst (v := 1) (pc := 96) C dX12_leave_96 rfl ?_
              refine v_iadd (pc := 97) C dX12_leave_97 ?_
              refine v_iast (pc := 98) C (50, 0) (x := ((g 50 (x).toNatClampNeg 0) + 1)) ck_50 (by (try simp only [Int32.le_iff_toInt_le, Int32.lt_iff_toInt_lt, ← Int32.toInt_inj, vp_in_iff, Int32.reduceToInt] at c_2 c_5 c_7 c_8 c_10 c_11 b_1 b_4 b_9 hu hg hf hl0 hl ⊢) <;> omega) dX12_leave_98 ?_
              refine v_h (h2 := (wm (s3 (s3 (s3 (S_X12_isWrong g (0)) 54 (x).toNatClampNeg (u).toNatClampNeg ((g 50 (x).toNatClampNeg 0))) 52 (x).toNatClampNeg (u).toNatClampNeg (0)) 50 (x).toNatClampNeg 0 (((g 50 (x).toNatClampNeg 0) + 1))) r)) (u_50_a) ?_
              refine v_aload_n (pc := 99) C dX12_leave_99 0 rfl rfl ?_
              refine v_sipush (v := 200) (pc := 100) C dX12_leave_100 (by decide) ?_
              refine v_iload_n (pc := 103) C dX12_leave_103 1 rfl rfl ?_
              refine v_iadd (pc := 104) C dX12_leave_104 ?_
              refine v_iload_n (pc := 105) C dX12_leave_105 2 rfl rfl ?_
              refine v_callS (pc := 106) C (c_X12_mix hG ((200 + x)) (u)) 2 wd_1554 wd_68 wd_1552 wd_1553 (by decide +kernel) (by decide) (by decide) rfl ([.ref (A (40, 0))]) rfl (Nat.le_of_ble_eq_true rfl) ⟨Nat.zero_le _, Nat.zero_le _⟩ dX12_leave_106 (fun _ _ _ q => q.elim) (fun v9 A9 h9 hR9 => ?_)
              obtain ⟨rfl, hA9, rfl⟩ := hR9
              obtain rfl := hA9.symm
              refine v_st (k2 := 0) (n2 := 0) (st2 := [.int (pMix ((200 + x)) (u)), .ref (A (40, 0))]) rfl rfl rfl ?_
              refine v_callV (pc := 109) C (40, 0) ck_40 rfl (c_X12_adds hG (g := (s3 (s3 (s3 (S_X12_isWrong g (0)) 54 (x).toNatClampNeg (u).toNatClampNeg ((g 50 (x).toNatClampNeg 0))) 52 (x).toNatClampNeg (u).toNatClampNeg (0)) 50 (x).toNatClampNeg 0 (((g 50 (x).toNatClampNeg 0) + 1)))) (pMix ((200 + x)) (u)) (by rw [show (s3 (s3 (s3 (S_X12_isWrong g (0)) 54 (x).toNatClampNeg (u).toNatClampNeg ((g 50 (x).toNatClampNeg 0))) 52 (x).toNatClampNeg (u).toNatClampNeg (0)) 50 (x).toNatClampNeg 0 (((g 50 (x).toNatClampNeg 0) + 1))) 2 0 0 = g 2 0 0 from (s3_k (by decide)).trans ((s3_k (by decide)).trans ((s3_k (by decide)).trans (F_X12_isWrong (by decide))))]; exact hu0) (by rw [show (s3 (s3 (s3 (S_X12_isWrong g (0)) 54 (x).toNatClampNeg (u).toNatClampNeg ((g 50 (x).toNatClampNeg 0))) 52 (x).toNatClampNeg (u).toNatClampNeg (0)) 50 (x).toNatClampNeg 0 (((g 50 (x).toNatClampNeg 0) + 1))) 2 0 0 = g 2 0 0 from (s3_k (by decide)).trans ((s3_k (by decide)).trans ((s3_k (by decide)).trans (F_X12_isWrong (by decide))))]; exact hu) (by rw [show (s3 (s3 (s3 (S_X12_isWrong g (0)) 54 (x).toNatClampNeg (u).toNatClampNeg ((g 50 (x).toNatClampNeg 0))) 52 (x).toNatClampNeg (u).toNatClampNeg (0)) 50 (x).toNatClampNeg 0 (((g 50 (x).toNatClampNeg 0) + 1))) 3 0 0 = g 3 0 0 from (s3_k (by decide)).trans ((s3_k (by decide)).trans ((s3_k (by decide)).trans (F_X12_isWrong (by decide))))]; exact hg0) (by rw [show (s3 (s3 (s3 (S_X12_isWrong g (0)) 54 (x).toNatClampNeg (u).toNatClampNeg ((g 50 (x).toNatClampNeg 0))) 52 (x).toNatClampNeg (u).toNatClampNeg (0)) 50 (x).toNatClampNeg 0 (((g 50 (x).toNatClampNeg 0) + 1))) 3 0 0 = g 3 0 0 from (s3_k (by decide)).trans ((s3_k (by decide)).trans ((s3_k (by decide)).trans (F_X12_isWrong (by decide))))]; exact hg) (by rw [show (s3 (s3 (s3 (S_X12_isWrong g (0)) 54 (x).toNatClampNeg (u).toNatClampNeg ((g 50 (x).toNatClampNeg 0))) 52 (x).toNatClampNeg (u).toNatClampNeg (0)) 50 (x).toNatClampNeg 0 (((g 50 (x).toNatClampNeg 0) + 1))) 4 0 0 = g 4 0 0 from (s3_k (by decide)).trans ((s3_k (by decide)).trans ((s3_k (by decide)).trans (F_X12_isWrong (by decide))))]; exact hf0) (by rw [show (s3 (s3 (s3 (S_X12_isWrong g (0)) 54 (x).toNatClampNeg (u).toNatClampNeg ((g 50 (x).toNatClampNeg 0))) 52 (x).toNatClampNeg (u).toNatClampNeg (0)) 50 (x).toNatClampNeg 0 (((g 50 (x).toNatClampNeg 0) + 1))) 4 0 0 = g 4 0 0 from (s3_k (by decide)).trans ((s3_k (by decide)).trans ((s3_k (by decide)).trans (F_X12_isWrong (by decide))))]; exact hf) (by rw [show (s3 (s3 (s3 (S_X12_isWrong g (0)) 54 (x).toNatClampNeg (u).toNatClampNeg ((g 50 (x).toNatClampNeg 0))) 52 (x).toNatClampNeg (u).toNatClampNeg (0)) 50 (x).toNatClampNeg 0 (((g 50 (x).toNatClampNeg 0) + 1))) 11 0 0 = g 11 0 0 from (s3_k (by decide)).trans ((s3_k (by decide)).trans ((s3_k (by decide)).trans (F_X12_isWrong (by decide))))]; exact hl0) (by (try simp only [Int32.le_iff_toInt_le, Int32.lt_iff_toInt_lt, ← Int32.toInt_inj, Int32.reduceToInt] at c_2 c_5 c_7 c_8 c_10 c_11 b_1 b_4 b_9 hu hg hf hl0 hl); rw [show (s3 (s3 (s3 (S_X12_isWrong g (0)) 54 (x).toNatClampNeg (u).toNatClampNeg ((g 50 (x).toNatClampNeg 0))) 52 (x).toNatClampNeg (u).toNatClampNeg (0)) 50 (x).toNatClampNeg 0 (((g 50 (x).toNatClampNeg 0) + 1))) 11 0 0 = g 11 0 0 from (s3_k (by decide)).trans ((s3_k (by decide)).trans ((s3_k (by decide)).trans (F_X12_isWrong (by decide))))]; omega)) 1 wd_1562 wd_68 wd_1559 wd_1561 wd_39 (by decide +kernel) (by decide) (by decide) rfl ([]) rfl (Nat.le_of_ble_eq_true rfl) ⟨Nat.zero_le _, Nat.zero_le _⟩ dX12_leave_109 (fun _ _ _ q => q.elim) (fun v9 A9 h9 hR9 => ?_)
              obtain ⟨rfl, hA9, rfl⟩ := hR9
              obtain rfl := hA9.symm
              refine v_st (k2 := 0) (n2 := 0) (st2 := []) rfl rfl rfl ?_
              refine v_iconst (v := 0) (pc := 112) C dX12_leave_112 rfl ?_
              refine v_istore (lv2 := [(4, .int (0)), (0, .ref (A (40, 0))), (1, .int (x)), (2, .int (u)), (3, .int (z))]) (pc := 113) C dX12_leave_113 (by decide) rfl ?_
              refine v_iconst (v := 0) (pc := 115) C dX12_leave_115 rfl ?_
              refine v_istore (lv2 := [(5, .int (0)), (4, .int (0)), (0, .ref (A (40, 0))), (1, .int (x)), (2, .int (u)), (3, .int (z))]) (pc := 116) C dX12_leave_116 (by decide) rfl ?_
              have L_118 : ∀ (n : Nat) (AL_118 : vN → Nat) (i_118 : Nat) (x_118_4 : Int32) (q_118 : vS), i_118 ≤ 20 → 20 + 1 ≤ i_118 + n → (∀ (c i j : Nat), c ≠ 1 → c ≠ 11 → c ≠ 13 → c ≠ 50 → c ≠ 52 → c ≠ 54 → c ≠ 56 → c ≠ 57 → c ≠ 59 → c ≠ 61 → c ≠ 65 → c ≠ 67 → c ≠ 73 → q_118 c i j = g c i j) → vAs 59 59 AL_118  A → vPb g ≤ vPb q_118 → vM1 q_118 → vM2 q_118 → vM3 q_118 → vM7 (B + i_118) q_118 → (V_X12_leave g x u z) = VL_X12_leave_118 g x u z n i_118 x_118_4 q_118 → (S_X12_leave g x u z) = SL_X12_leave_118 g x u z n i_118 x_118_4 q_118 → V G 7 X AL_118 (wm q_118 r) (vPb q_118 - vPb g) (2 * (vPb q_118 - vPb g)) (vM G X (fun v A2 h2 => v = some (.int (V_X12_leave g x u z)) ∧ vAs 59 59 A2 A ∧ h2 = wm (S_X12_leave g x u z) r) (vNoX) (vPb (S_X12_leave g x u z) - vPb g) (2 * (vPb (S_X12_leave g x u z) - vPb g))) 118 [(5, .int (nI i_118)), (4, .int (x_118_4)), (0, .ref (AL_118 (40, 0))), (1, .int (x)), (2, .int (u)), (3, .int (z))] [] := by
                intro n
                induction n with
                | zero => intro AL_118 i_118 x_118_4 q_118 hi_118 hc_118 hF_118 hv_118 hp_118 h1_118 h2_118 h3_118 h7_118 eV_118 eS_118; exact absurd hc_118 (by omega)
                | succ n ih =>
                  intro AL_118 i_118 x_118_4 q_118 hi_118 hc_118 hF_118 hv_118 hp_118 h1_118 h2_118 h3_118 h7_118 eV_118 eS_118
                  have hq_118 : (nI i_118).toInt = (i_118 : Int) := nI_toInt (by omega)
                  have hr_118 : (nI (i_118 + 1)).toInt = ((i_118 + 1 : Nat) : Int) := nI_toInt (by omega)
                  have hpq : vPb q_118 ≤ vPb (S_X12_leave g x u z) := by rw [eS_118]; exact mono_lv hB hf _ _ _ _ hi_118 h1_118 h2_118 h3_118 h7_118
                  refine v_iload_n (pc := 118) C dX12_leave_118 5 rfl rfl ?_
                  refine v_if_eq (pc := 119) (tgt := 242) C dX12_leave_119 (by decide) (fun c_12 => ?_) (fun c_12 => ?_)
                  · skip
                    have hpe : vPb (S_X12_leave g x u z) = vPb q_118 := congrArg vPb (show S_X12_leave g x u z = q_118 from (by rw [eS_118, SL_X12_leave_118, if_pos c_12]))
                    refine v_iload (pc := 242) C dX12_leave_242 1 rfl ?_
                    exact v_iret (pc := 244) C (by omega) (by omega) dX12_leave_244 ⟨(congrArg (fun q => some (Value.int q)) (by show _ = _; rw [eV_118, VL_X12_leave_118, if_pos c_12])), (vAs_w hv_118 (by decide) (by decide)), (congrArg (fun q => wm q r) (by show _ = _; rw [eS_118, SL_X12_leave_118, if_pos c_12]))⟩
                  · skip
                    refine v_iload (pc := 122) C dX12_leave_122 0 rfl ?_
                    refine v_aload_n (pc := 124) C dX12_leave_124 2 rfl rfl ?_
                    refine v_get (pc := 125) C (40, 0) (v := .int ((g 4 0 0))) ck_40 rfl 24 (by decide) inX12 wd_1412 rfl (congrArg Value.int (hF_118 _ _ _ (by decide) (by decide) (by decide) (by decide) (by decide) (by decide) (by decide) (by decide) (by decide) (by decide) (by decide) (by decide) (by decide))) dX12_leave_125 ?_
                    refine v_icmp_ge (pc := 128) (tgt := 242) C dX12_leave_128 (by decide) (fun c_13 => ?_) (fun c_13 => ?_)
                    · skip
                      have hpe : vPb (S_X12_leave g x u z) = vPb q_118 := congrArg vPb (show S_X12_leave g x u z = q_118 from (by rw [eS_118, SL_X12_leave_118, if_neg c_12, if_pos c_13]))
                      refine v_iload (pc := 242) C dX12_leave_242 1 rfl ?_
                      exact v_iret (pc := 244) C (by omega) (by omega) dX12_leave_244 ⟨(congrArg (fun q => some (Value.int q)) (by show _ = _; rw [eV_118, VL_X12_leave_118, if_neg c_12, if_pos c_13])), (vAs_w hv_118 (by decide) (by decide)), (congrArg (fun q => wm q r) (by show _ = _; rw [eS_118, SL_X12_leave_118, if_neg c_12, if_pos c_13]))⟩
                    · skip
                      refine v_aload_n (pc := 131) C dX12_leave_131 2 rfl rfl ?_
                      refine v_get (pc := 132) C (40, 0) (v := .ref (AL_118 (55, 0))) ck_40 rfl 15 (by decide) inX12 wd_1403 rfl rfl dX12_leave_132 ?_
                      refine v_iload (pc := 135) C dX12_leave_135 0 rfl ?_
                      refine v_iald (pc := 137) C (55, 0) (v := (g 55 i_118 0)) ck_55 (by (try simp only [Int32.le_iff_toInt_le, Int32.lt_iff_toInt_lt, ← Int32.toInt_inj, vp_in_iff, Int32.reduceToInt] at c_2 c_5 c_7 c_8 c_10 c_11 c_12 c_13 b_1 b_4 b_9 hq_118 hr_118 hu hg hf hl0 hl ⊢) <;> omega) ((congrArg (fun k => q_118 55 k 0) (show (nI i_118 : Int32).toNatClampNeg = i_118 from (nI_clamp (by omega)))).trans (hF_118 _ _ _ (by decide) (by decide) (by decide) (by decide) (by decide) (by decide) (by decide) (by decide) (by decide) (by decide) (by decide) (by decide) (by decide))) dX12_leave_137 ?_
                      have b_14 := h1 i_118
                      refine v_iload_n (pc := 138) C dX12_leave_138 3 rfl rfl ?_
                      refine v_icmp_ne (pc := 139) (tgt := 236) C dX12_leave_139 (by decide) (fun c_15 => ?_) (fun c_15 => ?_)
                      · skip
                        refine v_iinc (v := nI (i_118 + 1)) (lv2 := [(5, .int (nI (i_118 + 1))), (4, .int (x_118_4)), (0, .ref (AL_118 (40, 0))), (1, .int (x)), (2, .int (u)), (3, .int (z))]) (pc := 236) C dX12_leave_236 0 rfl (nI_1 _) (by decide) rfl ?_
                        refine v_goto (tgt := 118) (pc := 239) C dX12_leave_239 (by decide) ?_
                        refine v_lv (lv2 := [(5, .int (nI (i_118 + 1))), (4, .int (x_118_4)), (0, .ref (AL_118 (40, 0))), (1, .int (x)), (2, .int (u)), (3, .int (z))]) [0, 1, 2, 3, 4, 5] rfl ?_
                        refine v_widen (k2 := (vPb q_118 - vPb g)) (n2 := (2 * (vPb q_118 - vPb g))) (by omega) (by omega) ?_
                        exact ih AL_118 (i_118 + 1) (x_118_4) q_118 (by (try simp only [Int32.le_iff_toInt_le, Int32.lt_iff_toInt_lt, ← Int32.toInt_inj, vp_in_iff, Int32.reduceToInt] at c_2 c_5 c_7 c_8 c_10 c_11 c_12 c_13 c_15 b_1 b_4 b_9 hq_118 hr_118 b_14 hu hg hf hl0 hl ⊢) <;> omega) (by omega) (fun c i j h1 h11 h13 h50 h52 h54 h56 h57 h59 h61 h65 h67 h73 => hF_118 c i j h1 h11 h13 h50 h52 h54 h56 h57 h59 h61 h65 h67 h73) (vAs_w hv_118 (by decide) (by decide)) (by omega) h1_118 h2_118 h3_118 (vM7_le (by omega) h7_118) (by rw [eV_118, VL_X12_leave_118, if_neg c_12, if_neg c_13, if_neg c_15]) (by rw [eS_118, SL_X12_leave_118, if_neg c_12, if_neg c_13, if_neg c_15])
                      · skip
                        refine v_aload_n (pc := 142) C dX12_leave_142 2 rfl rfl ?_
                        refine v_get (pc := 143) C (40, 0) (v := .ref (AL_118 (68, 0))) ck_40 rfl 23 (by decide) inX12 wd_1411 rfl rfl dX12_leave_143 ?_
                        refine v_iload (pc := 146) C dX12_leave_146 0 rfl ?_
                        refine v_zald (pc := 148) C (68, 0) (v := (g 68 i_118 0)) ck_68 (by (try simp only [Int32.le_iff_toInt_le, Int32.lt_iff_toInt_lt, ← Int32.toInt_inj, vp_in_iff, Int32.reduceToInt] at c_2 c_5 c_7 c_8 c_10 c_11 c_12 c_13 c_15 b_1 b_4 b_9 hq_118 hr_118 b_14 hu hg hf hl0 hl ⊢) <;> omega) ((congrArg (fun k => q_118 68 k 0) (show (nI i_118 : Int32).toNatClampNeg = i_118 from (nI_clamp (by omega)))).trans (hF_118 _ _ _ (by decide) (by decide) (by decide) (by decide) (by decide) (by decide) (by decide) (by decide) (by decide) (by decide) (by decide) (by decide) (by decide))) dX12_leave_148 ?_
                        refine v_if_ne (pc := 149) (tgt := 236) C dX12_leave_149 (by decide) (fun c_16 => ?_) (fun c_16 => ?_)
                        · skip
                          refine v_iinc (v := nI (i_118 + 1)) (lv2 := [(5, .int (nI (i_118 + 1))), (4, .int (x_118_4)), (0, .ref (AL_118 (40, 0))), (1, .int (x)), (2, .int (u)), (3, .int (z))]) (pc := 236) C dX12_leave_236 0 rfl (nI_1 _) (by decide) rfl ?_
                          refine v_goto (tgt := 118) (pc := 239) C dX12_leave_239 (by decide) ?_
                          refine v_lv (lv2 := [(5, .int (nI (i_118 + 1))), (4, .int (x_118_4)), (0, .ref (AL_118 (40, 0))), (1, .int (x)), (2, .int (u)), (3, .int (z))]) [0, 1, 2, 3, 4, 5] rfl ?_
                          refine v_widen (k2 := (vPb q_118 - vPb g)) (n2 := (2 * (vPb q_118 - vPb g))) (by omega) (by omega) ?_
                          exact ih AL_118 (i_118 + 1) (x_118_4) q_118 (by (try simp only [Int32.le_iff_toInt_le, Int32.lt_iff_toInt_lt, ← Int32.toInt_inj, vp_in_iff, Int32.reduceToInt] at c_2 c_5 c_7 c_8 c_10 c_11 c_12 c_13 c_15 c_16 b_1 b_4 b_9 hq_118 hr_118 b_14 hu hg hf hl0 hl ⊢) <;> omega) (by omega) (fun c i j h1 h11 h13 h50 h52 h54 h56 h57 h59 h61 h65 h67 h73 => hF_118 c i j h1 h11 h13 h50 h52 h54 h56 h57 h59 h61 h65 h67 h73) (vAs_w hv_118 (by decide) (by decide)) (by omega) h1_118 h2_118 h3_118 (vM7_le (by omega) h7_118) (by rw [eV_118, VL_X12_leave_118, if_neg c_12, if_neg c_13, if_pos c_15, if_neg c_16]) (by rw [eS_118, SL_X12_leave_118, if_neg c_12, if_neg c_13, if_pos c_15, if_neg c_16])
                        · skip
                          refine v_aload_n (pc := 152) C dX12_leave_152 2 rfl rfl ?_
                          refine v_iload (pc := 153) C dX12_leave_153 0 rfl ?_
                          refine v_callV (pc := 155) C (40, 0) ck_40 rfl (c_X12_isSpoiled hG (g := q_118) (nI i_118) (by rw [show q_118 2 0 0 = g 2 0 0 from hF_118 _ _ _ (by decide) (by decide) (by decide) (by decide) (by decide) (by decide) (by decide) (by decide) (by decide) (by decide) (by decide) (by decide) (by decide)]; exact hu0) (by rw [show q_118 2 0 0 = g 2 0 0 from hF_118 _ _ _ (by decide) (by decide) (by decide) (by decide) (by decide) (by decide) (by decide) (by decide) (by decide) (by decide) (by decide) (by decide) (by decide)]; exact hu) (by rw [show q_118 3 0 0 = g 3 0 0 from hF_118 _ _ _ (by decide) (by decide) (by decide) (by decide) (by decide) (by decide) (by decide) (by decide) (by decide) (by decide) (by decide) (by decide) (by decide)]; exact hg0) (by rw [show q_118 3 0 0 = g 3 0 0 from hF_118 _ _ _ (by decide) (by decide) (by decide) (by decide) (by decide) (by decide) (by decide) (by decide) (by decide) (by decide) (by decide) (by decide) (by decide)]; exact hg) (by rw [show q_118 4 0 0 = g 4 0 0 from hF_118 _ _ _ (by decide) (by decide) (by decide) (by decide) (by decide) (by decide) (by decide) (by decide) (by decide) (by decide) (by decide) (by decide) (by decide)]; exact hf0) (by rw [show q_118 4 0 0 = g 4 0 0 from hF_118 _ _ _ (by decide) (by decide) (by decide) (by decide) (by decide) (by decide) (by decide) (by decide) (by decide) (by decide) (by decide) (by decide) (by decide)]; exact hf) (by (try simp only [Int32.le_iff_toInt_le, Int32.lt_iff_toInt_lt, ← Int32.toInt_inj, Int32.reduceToInt] at c_2 c_5 c_7 c_8 c_10 c_11 c_12 c_13 c_15 c_16 b_1 b_4 b_9 hq_118 hr_118 b_14 hu hg hf hl0 hl ⊢); omega) (by (try simp only [Int32.le_iff_toInt_le, Int32.lt_iff_toInt_lt, ← Int32.toInt_inj, Int32.reduceToInt] at c_2 c_5 c_7 c_8 c_10 c_11 c_12 c_13 c_15 c_16 b_1 b_4 b_9 hq_118 hr_118 b_14 hu hg hf hl0 hl ⊢); omega)) 1 wd_1570 wd_68 wd_1567 wd_1569 wd_40 (by decide +kernel) (by decide) (by decide) rfl ([]) rfl (Nat.le_of_ble_eq_true rfl) ⟨by omega, by omega⟩ dX12_leave_155 (fun _ _ _ q => q.elim) (fun v9 A9 h9 hR9 => ?_)
                          obtain ⟨rfl, hA9, rfl⟩ := hR9
                          obtain rfl := hA9.symm
                          refine v_st (k2 := (vPb q_118 - vPb g)) (n2 := (2 * (vPb q_118 - vPb g))) (st2 := [.int ((V_X12_isSpoiled q_118 (nI i_118)))]) rfl rfl rfl ?_
                          refine v_if_eq (pc := 158) (tgt := 164) C dX12_leave_158 (by decide) (fun c_17 => ?_) (fun c_17 => ?_)
                          · skip
                            refine v_aload_n (pc := 164) C dX12_leave_164 2 rfl rfl ?_
                            refine v_iload (pc := 165) C dX12_leave_165 0 rfl ?_
                            have hpt := vPb_turns (g := q_118) (x := (nI i_118)) (tn_lt (by simp only [Int32.le_iff_toInt_le, Int32.lt_iff_toInt_lt, ← Int32.toInt_inj] at c_2 c_5 c_7 c_8 c_10 c_11 c_12 c_13 c_15 c_16 c_17 b_1 b_4 b_9 hq_118 hr_118 b_14; omega)) (by have := (h7_118 ((nI i_118)).toNatClampNeg).2; omega)
                            have hM := M2_turns (B := B + i_118) (x := (nI i_118)) h2_118 h7_118 (by omega)
                            have hM3 := M3_turns (x := (nI i_118)) h2_118 h3_118 (by have := (h7_118 ((nI i_118)).toNatClampNeg).2; omega)
                            have hM1 : vM1 (S_X12_turns q_118 (nI i_118)) := vM1_k (fun _ _ => F_X12_turns (by decide) (by decide) (by decide)) h1_118
                            have hpz : vPb (S_X12_turns q_118 (nI i_118)) ≤ vPb (S_X12_leave g x u z) := by
                              rw [show S_X12_leave g x u z = (SL_X12_leave_173 g x u z i_118 x_118_4 q_118 (SL_X12_leave_118 g x u z n) (8 + 1) 0 (x_118_4) (S_X12_turns q_118 (nI i_118))) from (by rw [eS_118, SL_X12_leave_118, if_neg c_12, if_neg c_13, if_pos c_15, if_pos c_16, if_pos c_17])]
                              exact mono_lv2 (C := B + i_118 + 1) (fun b q k1 k2 k3 k7 => mono_lv hB hf n (i_118 + 1) b q (by simp only [Int32.le_iff_toInt_le, Int32.lt_iff_toInt_lt, ← Int32.toInt_inj] at c_2 c_5 c_7 c_8 c_10 c_11 c_12 c_13 c_15 c_16 c_17 b_1 b_4 b_9 hq_118 hr_118 b_14; omega) k1 k2 k3 k7) _ _ _ _ hM1 hM.1 hM3 hM.2
                            refine v_callV (pc := 167) C (40, 0) ck_40 rfl (c_X12_turns hG (g := q_118) (nI i_118) (by rw [show q_118 2 0 0 = g 2 0 0 from hF_118 _ _ _ (by decide) (by decide) (by decide) (by decide) (by decide) (by decide) (by decide) (by decide) (by decide) (by decide) (by decide) (by decide) (by decide)]; exact hu0) (by rw [show q_118 2 0 0 = g 2 0 0 from hF_118 _ _ _ (by decide) (by decide) (by decide) (by decide) (by decide) (by decide) (by decide) (by decide) (by decide) (by decide) (by decide) (by decide) (by decide)]; exact hu) (by rw [show q_118 3 0 0 = g 3 0 0 from hF_118 _ _ _ (by decide) (by decide) (by decide) (by decide) (by decide) (by decide) (by decide) (by decide) (by decide) (by decide) (by decide) (by decide) (by decide)]; exact hg0) (by rw [show q_118 3 0 0 = g 3 0 0 from hF_118 _ _ _ (by decide) (by decide) (by decide) (by decide) (by decide) (by decide) (by decide) (by decide) (by decide) (by decide) (by decide) (by decide) (by decide)]; exact hg) (by rw [show q_118 4 0 0 = g 4 0 0 from hF_118 _ _ _ (by decide) (by decide) (by decide) (by decide) (by decide) (by decide) (by decide) (by decide) (by decide) (by decide) (by decide) (by decide) (by decide)]; exact hf0) (by rw [show q_118 4 0 0 = g 4 0 0 from hF_118 _ _ _ (by decide) (by decide) (by decide) (by decide) (by decide) (by decide) (by decide) (by decide) (by decide) (by decide) (by decide) (by decide) (by decide)]; exact hf) (by (try simp only [Int32.le_iff_toInt_le, Int32.lt_iff_toInt_lt, ← Int32.toInt_inj, Int32.reduceToInt] at c_2 c_5 c_7 c_8 c_10 c_11 c_12 c_13 c_15 c_16 c_17 b_1 b_4 b_9 hq_118 hr_118 b_14 hu hg hf hl0 hl ⊢); omega) (by (try simp only [Int32.le_iff_toInt_le, Int32.lt_iff_toInt_lt, ← Int32.toInt_inj, Int32.reduceToInt] at c_2 c_5 c_7 c_8 c_10 c_11 c_12 c_13 c_15 c_16 c_17 b_1 b_4 b_9 hq_118 hr_118 b_14 hu hg hf hl0 hl ⊢); omega) h1_118 h2_118 h3_118 (B + i_118) h7_118 (by omega) hr) 1 wd_1578 wd_68 wd_1575 wd_1577 wd_42 (by decide +kernel) (by decide) (by decide) rfl ([]) rfl (Nat.le_of_ble_eq_true rfl) ⟨by omega, by omega⟩ dX12_leave_167 (fun _ _ _ q => q.elim) (fun v9 A_18 h9 hR9 => ?_)
                            obtain ⟨rfl, hA_18, rfl⟩ := hR9
                            refine v_st (k2 := ((vPb q_118 - vPb g) + (vPb (S_X12_turns q_118 (nI i_118)) - vPb q_118))) (n2 := ((2 * (vPb q_118 - vPb g)) + (2 * (vPb (S_X12_turns q_118 (nI i_118)) - vPb q_118)))) (st2 := []) rfl rfl rfl ?_
                            refine v_lve (lv2 := [(5, .int (nI i_118)), (4, .int (x_118_4)), (0, .ref (A_18 (40, 0))), (1, .int (x)), (2, .int (u)), (3, .int (z))]) (by rw [(hA_18 (40, 0) (Or.inl (by show 40 < 59; decide)))]) ?_
                            refine v_iconst (v := 0) (pc := 170) C dX12_leave_170 rfl ?_
                            refine v_istore (lv2 := [(6, .int (0)), (5, .int (nI i_118)), (4, .int (x_118_4)), (0, .ref (A_18 (40, 0))), (1, .int (x)), (2, .int (u)), (3, .int (z))]) (pc := 171) C dX12_leave_171 (by decide) rfl ?_
                            have L_173 : ∀ (n2 : Nat) (AL_173 : vN → Nat) (i_173 : Nat) (x_173_4 : Int32) (q_173 : vS), i_173 ≤ 8 → 8 + 1 ≤ i_173 + n2 → (∀ (c i j : Nat), c ≠ 1 → c ≠ 11 → c ≠ 13 → c ≠ 50 → c ≠ 52 → c ≠ 54 → c ≠ 56 → c ≠ 57 → c ≠ 59 → c ≠ 61 → c ≠ 65 → c ≠ 67 → c ≠ 73 → q_173 c i j = g c i j) → vAs 59 59 AL_173  A → vPb q_173 = vPb (S_X12_turns q_118 (nI i_118)) → vM1 q_173 → vM2 q_173 → vM3 q_173 → vM7 (B + i_118 + 1) q_173 → (V_X12_leave g x u z) = VL_X12_leave_173 g x u z i_118 x_118_4 q_118 (VL_X12_leave_118 g x u z n) n2 i_173 x_173_4 q_173 → (S_X12_leave g x u z) = SL_X12_leave_173 g x u z i_118 x_118_4 q_118 (SL_X12_leave_118 g x u z n) n2 i_173 x_173_4 q_173 → V G 7 X AL_173 (wm q_173 r) ((vPb q_118 - vPb g) + (vPb (S_X12_turns q_118 (nI i_118)) - vPb q_118)) ((2 * (vPb q_118 - vPb g)) + (2 * (vPb (S_X12_turns q_118 (nI i_118)) - vPb q_118))) (vM G X (fun v A2 h2 => v = some (.int (V_X12_leave g x u z)) ∧ vAs 59 59 A2 A ∧ h2 = wm (S_X12_leave g x u z) r) (vNoX) (vPb (S_X12_leave g x u z) - vPb g) (2 * (vPb (S_X12_leave g x u z) - vPb g))) 173 [(6, .int (nI i_173)), (5, .int (nI i_118)), (4, .int (x_173_4)), (0, .ref (AL_173 (40, 0))), (1, .int (x)), (2, .int (u)), (3, .int (z))] [] := by
                              intro n2
                              induction n2 with
                              | zero => intro AL_173 i_173 x_173_4 q_173 hi_173 hc_173 hF_173 hv_173 hp_173 h1_173 h2_173 h3_173 h7_173 eV_173 eS_173; exact absurd hc_173 (by omega)
                              | succ n2 ih2 =>
                                intro AL_173 i_173 x_173_4 q_173 hi_173 hc_173 hF_173 hv_173 hp_173 h1_173 h2_173 h3_173 h7_173 eV_173 eS_173
                                have hq_173 : (nI i_173).toInt = (i_173 : Int) := nI_toInt (by omega)
                                have hr_173 : (nI (i_173 + 1)).toInt = ((i_173 + 1 : Nat) : Int) := nI_toInt (by omega)
                                refine v_iload (pc := 173) C dX12_leave_173 0 rfl ?_
                                refine v_bipush (v := 8) (pc := 175) C dX12_leave_175 (by decide) ?_
                                refine v_icmp_ge (pc := 177) (tgt := 223) C dX12_leave_177 (by decide) (fun c_19 => ?_) (fun c_19 => ?_)
                                · skip
                                  refine v_aload_n (pc := 223) C dX12_leave_223 3 rfl rfl ?_
                                  refine v_get (pc := 224) C (40, 0) (v := .ref (AL_173 (57, 0))) ck_40 rfl 17 (by decide) inX12 wd_1405 rfl rfl dX12_leave_224 ?_
                                  refine v_iload (pc := 227) C dX12_leave_227 1 rfl ?_
                                  refine v_aload_n (pc := 229) C dX12_leave_229 3 rfl rfl ?_
                                  refine v_iload (pc := 230) C dX12_leave_230 1 rfl ?_
                                  refine v_callV (pc := 232) C (40, 0) ck_40 rfl (c_X12_markOf hG (g := q_173) (nI i_118) (by rw [show q_173 2 0 0 = g 2 0 0 from hF_173 _ _ _ (by decide) (by decide) (by decide) (by decide) (by decide) (by decide) (by decide) (by decide) (by decide) (by decide) (by decide) (by decide) (by decide)]; exact hu0) (by rw [show q_173 2 0 0 = g 2 0 0 from hF_173 _ _ _ (by decide) (by decide) (by decide) (by decide) (by decide) (by decide) (by decide) (by decide) (by decide) (by decide) (by decide) (by decide) (by decide)]; exact hu) (by rw [show q_173 3 0 0 = g 3 0 0 from hF_173 _ _ _ (by decide) (by decide) (by decide) (by decide) (by decide) (by decide) (by decide) (by decide) (by decide) (by decide) (by decide) (by decide) (by decide)]; exact hg0) (by rw [show q_173 3 0 0 = g 3 0 0 from hF_173 _ _ _ (by decide) (by decide) (by decide) (by decide) (by decide) (by decide) (by decide) (by decide) (by decide) (by decide) (by decide) (by decide) (by decide)]; exact hg) (by rw [show q_173 4 0 0 = g 4 0 0 from hF_173 _ _ _ (by decide) (by decide) (by decide) (by decide) (by decide) (by decide) (by decide) (by decide) (by decide) (by decide) (by decide) (by decide) (by decide)]; exact hf0) (by rw [show q_173 4 0 0 = g 4 0 0 from hF_173 _ _ _ (by decide) (by decide) (by decide) (by decide) (by decide) (by decide) (by decide) (by decide) (by decide) (by decide) (by decide) (by decide) (by decide)]; exact hf) (by (try simp only [Int32.le_iff_toInt_le, Int32.lt_iff_toInt_lt, ← Int32.toInt_inj, Int32.reduceToInt] at c_2 c_5 c_7 c_8 c_10 c_11 c_12 c_13 c_15 c_16 c_17 c_19 b_1 b_4 b_9 hq_118 hr_118 b_14 hq_173 hr_173 hu hg hf hl0 hl ⊢); omega) (by (try simp only [Int32.le_iff_toInt_le, Int32.lt_iff_toInt_lt, ← Int32.toInt_inj, Int32.reduceToInt] at c_2 c_5 c_7 c_8 c_10 c_11 c_12 c_13 c_15 c_16 c_17 c_19 b_1 b_4 b_9 hq_118 hr_118 b_14 hq_173 hr_173 hu hg hf hl0 hl ⊢); omega)) 1 wd_1574 wd_68 wd_1571 wd_1573 wd_41 (by decide +kernel) (by decide) (by decide) rfl ([.int (nI i_118), .ref (AL_173 (57, 0))]) rfl (Nat.le_of_ble_eq_true rfl) ⟨by omega, by omega⟩ dX12_leave_232 (fun _ _ _ q => q.elim) (fun v9 A9 h9 hR9 => ?_)
                                  obtain ⟨rfl, hA9, rfl⟩ := hR9
                                  obtain rfl := hA9.symm
                                  refine v_st (k2 := ((vPb q_118 - vPb g) + (vPb (S_X12_turns q_118 (nI i_118)) - vPb q_118))) (n2 := ((2 * (vPb q_118 - vPb g)) + (2 * (vPb (S_X12_turns q_118 (nI i_118)) - vPb q_118)))) (st2 := [.int ((V_X12_markOf q_173 (nI i_118))), .int (nI i_118), .ref (AL_173 (57, 0))]) rfl rfl rfl ?_
                                  refine v_iast (pc := 235) C (57, 0) (x := (V_X12_markOf q_173 (nI i_118))) ck_57 (by (try simp only [Int32.le_iff_toInt_le, Int32.lt_iff_toInt_lt, ← Int32.toInt_inj, vp_in_iff, Int32.reduceToInt] at c_2 c_5 c_7 c_8 c_10 c_11 c_12 c_13 c_15 c_16 c_17 c_19 b_1 b_4 b_9 hq_118 hr_118 b_14 hq_173 hr_173 hu hg hf hl0 hl ⊢) <;> omega) dX12_leave_235 ?_
                                  rw [show (nI i_118 : Int32).toNatClampNeg = i_118 from (nI_clamp (by omega))]
                                  refine v_h (h2 := (wm (s3 q_173 57 i_118 0 ((V_X12_markOf q_173 (nI i_118)))) r)) (u_57_a) ?_
                                  have hpm : vPb (s3 q_173 57 i_118 0 ((V_X12_markOf q_173 (nI i_118)))) = vPb (S_X12_turns q_118 (nI i_118)) := (vPb_k (fun _ _ => s3_k (by decide))).trans hp_173
                                  refine v_iinc (v := nI (i_118 + 1)) (lv2 := [(5, .int (nI (i_118 + 1))), (6, .int (nI i_173)), (4, .int (x_173_4)), (0, .ref (AL_173 (40, 0))), (1, .int (x)), (2, .int (u)), (3, .int (z))]) (pc := 236) C dX12_leave_236 1 rfl (nI_1 _) (by decide) rfl ?_
                                  refine v_goto (tgt := 118) (pc := 239) C dX12_leave_239 (by decide) ?_
                                  refine v_lv (lv2 := [(5, .int (nI (i_118 + 1))), (4, .int (x_173_4)), (0, .ref (AL_173 (40, 0))), (1, .int (x)), (2, .int (u)), (3, .int (z))]) [0, 2, 3, 4, 5, 6] rfl ?_
                                  refine v_widen (k2 := (vPb (s3 q_173 57 i_118 0 ((V_X12_markOf q_173 (nI i_118)))) - vPb g)) (n2 := (2 * (vPb (s3 q_173 57 i_118 0 ((V_X12_markOf q_173 (nI i_118)))) - vPb g))) (by omega) (by omega) ?_
                                  exact ih AL_173 (i_118 + 1) (x_173_4) (s3 q_173 57 i_118 0 ((V_X12_markOf q_173 (nI i_118)))) (by (try simp only [Int32.le_iff_toInt_le, Int32.lt_iff_toInt_lt, ← Int32.toInt_inj, vp_in_iff, Int32.reduceToInt] at c_2 c_5 c_7 c_8 c_10 c_11 c_12 c_13 c_15 c_16 c_17 c_19 b_1 b_4 b_9 hq_118 hr_118 b_14 hq_173 hr_173 hu hg hf hl0 hl ⊢) <;> omega) (by omega) (fun c i j h1 h11 h13 h50 h52 h54 h56 h57 h59 h61 h65 h67 h73 => (s3_k h57).trans (hF_173 c i j h1 h11 h13 h50 h52 h54 h56 h57 h59 h61 h65 h67 h73)) (vAs_w hv_173 (by decide) (by decide)) (by omega) (vM1_k (fun _ _ => s3_k (by decide)) h1_173) (vM2_k (fun _ _ => s3_k (by decide)) (fun _ _ => s3_k (by decide)) h2_173) (vM3_k (fun _ _ => s3_k (by decide)) (fun _ _ => s3_k (by decide)) h3_173) (vM7_le (by omega) (vM7_k (fun _ _ => s3_k (by decide)) (fun _ _ => s3_k (by decide)) h7_173)) (by rw [eV_173, VL_X12_leave_173, if_pos c_19]) (by rw [eS_173, SL_X12_leave_173, if_pos c_19])
                                · skip
                                  refine v_aload_n (pc := 180) C dX12_leave_180 3 rfl rfl ?_
                                  refine v_get (pc := 181) C (40, 0) (v := .ref (AL_173 (62, 0))) ck_40 rfl 20 (by decide) inX12 wd_1408 rfl rfl dX12_leave_181 ?_
                                  refine v_iload (pc := 184) C dX12_leave_184 1 rfl ?_
                                  refine v_aald (pc := 186) C (62, 0) ck_62 rfl rfl (by (try simp only [Int32.le_iff_toInt_le, Int32.lt_iff_toInt_lt, ← Int32.toInt_inj, vp_in_iff, Int32.reduceToInt] at c_2 c_5 c_7 c_8 c_10 c_11 c_12 c_13 c_15 c_16 c_17 c_19 b_1 b_4 b_9 hq_118 hr_118 b_14 hq_173 hr_173 hu hg hf hl0 hl ⊢) <;> omega) (63, i_118) (congrArg (fun k => some ((63, k) : vN)) (show (nI i_118 : Int32).toNatClampNeg = i_118 from (nI_clamp (by omega)))) dX12_leave_186 ?_
                                  refine v_iload (pc := 187) C dX12_leave_187 0 rfl ?_
                                  refine v_iald (pc := 189) C (63, i_118) (v := (g 63 i_118 i_173)) (ck_63 (g := q_173) (by (try simp only [Int32.le_iff_toInt_le, Int32.lt_iff_toInt_lt, ← Int32.toInt_inj, Int32.reduceToInt] at c_2 c_5 c_7 c_8 c_10 c_11 c_12 c_13 c_15 c_16 c_17 c_19 b_1 b_4 b_9 hq_118 hr_118 b_14 hq_173 hr_173 hu hg hf hl0 hl); omega)) (by (try simp only [Int32.le_iff_toInt_le, Int32.lt_iff_toInt_lt, ← Int32.toInt_inj, vp_in_iff, Int32.reduceToInt] at c_2 c_5 c_7 c_8 c_10 c_11 c_12 c_13 c_15 c_16 c_17 c_19 b_1 b_4 b_9 hq_118 hr_118 b_14 hq_173 hr_173 hu hg hf hl0 hl ⊢) <;> omega) ((congrArg (fun k => q_173 63 i_118 k) (show (nI i_173 : Int32).toNatClampNeg = i_173 from (nI_clamp (by omega)))).trans (hF_173 _ _ _ (by decide) (by decide) (by decide) (by decide) (by decide) (by decide) (by decide) (by decide) (by decide) (by decide) (by decide) (by decide) (by decide))) dX12_leave_189 ?_
                                  refine v_if_ne (pc := 190) (tgt := 196) C dX12_leave_190 (by decide) (fun c_20 => ?_) (fun c_20 => ?_)
                                  · skip
                                    refine v_aload_n (pc := 196) C dX12_leave_196 3 rfl rfl ?_
                                    refine v_iload (pc := 197) C dX12_leave_197 1 rfl ?_
                                    refine v_iload (pc := 199) C dX12_leave_199 0 rfl ?_
                                    refine v_aload_n (pc := 201) C dX12_leave_201 3 rfl rfl ?_
                                    refine v_get (pc := 202) C (40, 0) (v := .ref (AL_173 (66, 0))) ck_40 rfl 22 (by decide) inX12 wd_1410 rfl rfl dX12_leave_202 ?_
                                    refine v_iload (pc := 205) C dX12_leave_205 1 rfl ?_
                                    refine v_aald (pc := 207) C (66, 0) ck_66 rfl rfl (by (try simp only [Int32.le_iff_toInt_le, Int32.lt_iff_toInt_lt, ← Int32.toInt_inj, vp_in_iff, Int32.reduceToInt] at c_2 c_5 c_7 c_8 c_10 c_11 c_12 c_13 c_15 c_16 c_17 c_19 c_20 b_1 b_4 b_9 hq_118 hr_118 b_14 hq_173 hr_173 hu hg hf hl0 hl ⊢) <;> omega) (67, i_118) (congrArg (fun k => some ((67, k) : vN)) (show (nI i_118 : Int32).toNatClampNeg = i_118 from (nI_clamp (by omega)))) dX12_leave_207 ?_
                                    refine v_iload (pc := 208) C dX12_leave_208 0 rfl ?_
                                    refine v_iald (pc := 210) C (67, i_118) (v := (q_173 67 i_118 i_173)) (ck_67 (g := q_173) (by (try simp only [Int32.le_iff_toInt_le, Int32.lt_iff_toInt_lt, ← Int32.toInt_inj, Int32.reduceToInt] at c_2 c_5 c_7 c_8 c_10 c_11 c_12 c_13 c_15 c_16 c_17 c_19 c_20 b_1 b_4 b_9 hq_118 hr_118 b_14 hq_173 hr_173 hu hg hf hl0 hl); omega)) (by (try simp only [Int32.le_iff_toInt_le, Int32.lt_iff_toInt_lt, ← Int32.toInt_inj, vp_in_iff, Int32.reduceToInt] at c_2 c_5 c_7 c_8 c_10 c_11 c_12 c_13 c_15 c_16 c_17 c_19 c_20 b_1 b_4 b_9 hq_118 hr_118 b_14 hq_173 hr_173 hu hg hf hl0 hl ⊢) <;> omega) ((congrArg (fun k => q_173 67 i_118 k) (show (nI i_173 : Int32).toNatClampNeg = i_173 from (nI_clamp (by omega)))).trans rfl) dX12_leave_210 ?_
                                    refine v_callV (pc := 211) C (40, 0) ck_40 rfl (c_X12_lays hG (g := q_173) (nI i_118) (nI i_173) ((q_173 67 i_118 i_173)) (by rw [show q_173 2 0 0 = g 2 0 0 from hF_173 _ _ _ (by decide) (by decide) (by decide) (by decide) (by decide) (by decide) (by decide) (by decide) (by decide) (by decide) (by decide) (by decide) (by decide)]; exact hu0) (by rw [show q_173 2 0 0 = g 2 0 0 from hF_173 _ _ _ (by decide) (by decide) (by decide) (by decide) (by decide) (by decide) (by decide) (by decide) (by decide) (by decide) (by decide) (by decide) (by decide)]; exact hu) (by rw [show q_173 3 0 0 = g 3 0 0 from hF_173 _ _ _ (by decide) (by decide) (by decide) (by decide) (by decide) (by decide) (by decide) (by decide) (by decide) (by decide) (by decide) (by decide) (by decide)]; exact hg0) (by rw [show q_173 3 0 0 = g 3 0 0 from hF_173 _ _ _ (by decide) (by decide) (by decide) (by decide) (by decide) (by decide) (by decide) (by decide) (by decide) (by decide) (by decide) (by decide) (by decide)]; exact hg) (by rw [show q_173 4 0 0 = g 4 0 0 from hF_173 _ _ _ (by decide) (by decide) (by decide) (by decide) (by decide) (by decide) (by decide) (by decide) (by decide) (by decide) (by decide) (by decide) (by decide)]; exact hf0) (by rw [show q_173 4 0 0 = g 4 0 0 from hF_173 _ _ _ (by decide) (by decide) (by decide) (by decide) (by decide) (by decide) (by decide) (by decide) (by decide) (by decide) (by decide) (by decide) (by decide)]; exact hf) (by (try simp only [Int32.le_iff_toInt_le, Int32.lt_iff_toInt_lt, ← Int32.toInt_inj, Int32.reduceToInt] at c_2 c_5 c_7 c_8 c_10 c_11 c_12 c_13 c_15 c_16 c_17 c_19 c_20 b_1 b_4 b_9 hq_118 hr_118 b_14 hq_173 hr_173 hu hg hf hl0 hl ⊢); omega) (by (try simp only [Int32.le_iff_toInt_le, Int32.lt_iff_toInt_lt, ← Int32.toInt_inj, Int32.reduceToInt] at c_2 c_5 c_7 c_8 c_10 c_11 c_12 c_13 c_15 c_16 c_17 c_19 c_20 b_1 b_4 b_9 hq_118 hr_118 b_14 hq_173 hr_173 hu hg hf hl0 hl ⊢); omega) (by (try simp only [Int32.le_iff_toInt_le, Int32.lt_iff_toInt_lt, ← Int32.toInt_inj, Int32.reduceToInt] at c_2 c_5 c_7 c_8 c_10 c_11 c_12 c_13 c_15 c_16 c_17 c_19 c_20 b_1 b_4 b_9 hq_118 hr_118 b_14 hq_173 hr_173 hu hg hf hl0 hl ⊢); omega) (by (try simp only [Int32.le_iff_toInt_le, Int32.lt_iff_toInt_lt, ← Int32.toInt_inj, Int32.reduceToInt] at c_2 c_5 c_7 c_8 c_10 c_11 c_12 c_13 c_15 c_16 c_17 c_19 c_20 b_1 b_4 b_9 hq_118 hr_118 b_14 hq_173 hr_173 hu hg hf hl0 hl ⊢); omega)) 3 wd_1582 wd_68 wd_1579 wd_1581 wd_43 (by decide +kernel) (by decide) (by decide) rfl ([]) rfl (Nat.le_of_ble_eq_true rfl) ⟨by omega, by omega⟩ dX12_leave_211 (fun _ _ _ q => q.elim) (fun v9 A9 h9 hR9 => ?_)
                                    obtain ⟨rfl, hA9, rfl⟩ := hR9
                                    obtain rfl := hA9.symm
                                    refine v_st (k2 := ((vPb q_118 - vPb g) + (vPb (S_X12_turns q_118 (nI i_118)) - vPb q_118))) (n2 := ((2 * (vPb q_118 - vPb g)) + (2 * (vPb (S_X12_turns q_118 (nI i_118)) - vPb q_118)))) (st2 := []) rfl rfl rfl ?_
                                    refine v_iinc (v := (x_173_4 + 1)) (lv2 := [(4, .int ((x_173_4 + 1))), (6, .int (nI i_173)), (5, .int (nI i_118)), (0, .ref (AL_173 (40, 0))), (1, .int (x)), (2, .int (u)), (3, .int (z))]) (pc := 214) C dX12_leave_214 2 rfl rfl (by decide) rfl ?_
                                    refine v_iinc (v := nI (i_173 + 1)) (lv2 := [(6, .int (nI (i_173 + 1))), (4, .int ((x_173_4 + 1))), (5, .int (nI i_118)), (0, .ref (AL_173 (40, 0))), (1, .int (x)), (2, .int (u)), (3, .int (z))]) (pc := 217) C dX12_leave_217 1 rfl (nI_1 _) (by decide) rfl ?_
                                    refine v_goto (tgt := 173) (pc := 220) C dX12_leave_220 (by decide) ?_
                                    refine v_lv (lv2 := [(6, .int (nI (i_173 + 1))), (5, .int (nI i_118)), (4, .int ((x_173_4 + 1))), (0, .ref (AL_173 (40, 0))), (1, .int (x)), (2, .int (u)), (3, .int (z))]) [0, 2, 1, 3, 4, 5, 6] rfl ?_
                                    exact ih2 AL_173 (i_173 + 1) ((x_173_4 + 1)) (S_X12_lays q_173 (nI i_118) (nI i_173) ((q_173 67 i_118 i_173))) (by (try simp only [Int32.le_iff_toInt_le, Int32.lt_iff_toInt_lt, ← Int32.toInt_inj, vp_in_iff, Int32.reduceToInt] at c_2 c_5 c_7 c_8 c_10 c_11 c_12 c_13 c_15 c_16 c_17 c_19 c_20 b_1 b_4 b_9 hq_118 hr_118 b_14 hq_173 hr_173 hu hg hf hl0 hl ⊢) <;> omega) (by omega) (fun c i j h1 h11 h13 h50 h52 h54 h56 h57 h59 h61 h65 h67 h73 => (F_X12_lays h61 h65 h67).trans (hF_173 c i j h1 h11 h13 h50 h52 h54 h56 h57 h59 h61 h65 h67 h73)) (vAs_w hv_173 (by decide) (by decide)) ((vPb_k (fun _ _ => F_X12_lays (by decide) (by decide) (by decide))).trans hp_173) (vM1_k (fun _ _ => F_X12_lays (by decide) (by decide) (by decide)) h1_173) (vM2_k (fun _ _ => F_X12_lays (by decide) (by decide) (by decide)) (fun _ _ => F_X12_lays (by decide) (by decide) (by decide)) h2_173) (M3_lays h2_173 h3_173) (vM7_k (fun _ _ => F_X12_lays (by decide) (by decide) (by decide)) (fun _ _ => F_X12_lays (by decide) (by decide) (by decide)) h7_173) (by rw [eV_173, VL_X12_leave_173, if_neg c_19, if_neg c_20]) (by rw [eS_173, SL_X12_leave_173, if_neg c_19, if_neg c_20])
                                  · skip
                                    refine v_goto (tgt := 217) (pc := 193) C dX12_leave_193 (by decide) ?_
                                    refine v_iinc (v := nI (i_173 + 1)) (lv2 := [(6, .int (nI (i_173 + 1))), (5, .int (nI i_118)), (4, .int (x_173_4)), (0, .ref (AL_173 (40, 0))), (1, .int (x)), (2, .int (u)), (3, .int (z))]) (pc := 217) C dX12_leave_217 0 rfl (nI_1 _) (by decide) rfl ?_
                                    refine v_goto (tgt := 173) (pc := 220) C dX12_leave_220 (by decide) ?_
                                    refine v_lv (lv2 := [(6, .int (nI (i_173 + 1))), (5, .int (nI i_118)), (4, .int (x_173_4)), (0, .ref (AL_173 (40, 0))), (1, .int (x)), (2, .int (u)), (3, .int (z))]) [0, 1, 2, 3, 4, 5, 6] rfl ?_
                                    exact ih2 AL_173 (i_173 + 1) (x_173_4) q_173 (by (try simp only [Int32.le_iff_toInt_le, Int32.lt_iff_toInt_lt, ← Int32.toInt_inj, vp_in_iff, Int32.reduceToInt] at c_2 c_5 c_7 c_8 c_10 c_11 c_12 c_13 c_15 c_16 c_17 c_19 c_20 b_1 b_4 b_9 hq_118 hr_118 b_14 hq_173 hr_173 hu hg hf hl0 hl ⊢) <;> omega) (by omega) (fun c i j h1 h11 h13 h50 h52 h54 h56 h57 h59 h61 h65 h67 h73 => hF_173 c i j h1 h11 h13 h50 h52 h54 h56 h57 h59 h61 h65 h67 h73) (vAs_w hv_173 (by decide) (by decide)) hp_173 h1_173 h2_173 h3_173 h7_173 (by rw [eV_173, VL_X12_leave_173, if_neg c_19, if_pos c_20]) (by rw [eS_173, SL_X12_leave_173, if_neg c_19, if_pos c_20])
                            exact L_173 (8 + 1) A_18 0 (x_118_4) (S_X12_turns q_118 (nI i_118)) (by omega) (by omega) (fun c i j h1 h11 h13 h50 h52 h54 h56 h57 h59 h61 h65 h67 h73 => (F_X12_turns h13 h56 h59).trans (hF_118 c i j h1 h11 h13 h50 h52 h54 h56 h57 h59 h61 h65 h67 h73)) (vAs_t (vAs_w hA_18 (by decide) (by decide)) (vAs_w hv_118 (by decide) (by decide))) rfl (vM1_k (fun _ _ => F_X12_turns (by decide) (by decide) (by decide)) h1_118) (M2_turns (x := (nI i_118)) h2_118 h7_118 (by omega)).1 (M3_turns (x := (nI i_118)) h2_118 h3_118 (by have := (h7_118 ((nI i_118)).toNatClampNeg).2; omega)) (M2_turns (x := (nI i_118)) h2_118 h7_118 (by omega)).2 (by rw [eV_118, VL_X12_leave_118, if_neg c_12, if_neg c_13, if_pos c_15, if_pos c_16, if_pos c_17]) (by rw [eS_118, SL_X12_leave_118, if_neg c_12, if_neg c_13, if_pos c_15, if_pos c_16, if_pos c_17])
                          · skip
                            refine v_goto (tgt := 236) (pc := 161) C dX12_leave_161 (by decide) ?_
                            refine v_iinc (v := nI (i_118 + 1)) (lv2 := [(5, .int (nI (i_118 + 1))), (4, .int (x_118_4)), (0, .ref (AL_118 (40, 0))), (1, .int (x)), (2, .int (u)), (3, .int (z))]) (pc := 236) C dX12_leave_236 0 rfl (nI_1 _) (by decide) rfl ?_
                            refine v_goto (tgt := 118) (pc := 239) C dX12_leave_239 (by decide) ?_
                            refine v_lv (lv2 := [(5, .int (nI (i_118 + 1))), (4, .int (x_118_4)), (0, .ref (AL_118 (40, 0))), (1, .int (x)), (2, .int (u)), (3, .int (z))]) [0, 1, 2, 3, 4, 5] rfl ?_
                            refine v_widen (k2 := (vPb q_118 - vPb g)) (n2 := (2 * (vPb q_118 - vPb g))) (by omega) (by omega) ?_
                            exact ih AL_118 (i_118 + 1) (x_118_4) q_118 (by (try simp only [Int32.le_iff_toInt_le, Int32.lt_iff_toInt_lt, ← Int32.toInt_inj, vp_in_iff, Int32.reduceToInt] at c_2 c_5 c_7 c_8 c_10 c_11 c_12 c_13 c_15 c_16 c_17 b_1 b_4 b_9 hq_118 hr_118 b_14 hu hg hf hl0 hl ⊢) <;> omega) (by omega) (fun c i j h1 h11 h13 h50 h52 h54 h56 h57 h59 h61 h65 h67 h73 => hF_118 c i j h1 h11 h13 h50 h52 h54 h56 h57 h59 h61 h65 h67 h73) (vAs_w hv_118 (by decide) (by decide)) (by omega) h1_118 h2_118 h3_118 (vM7_le (by omega) h7_118) (by rw [eV_118, VL_X12_leave_118, if_neg c_12, if_neg c_13, if_pos c_15, if_pos c_16, if_neg c_17]) (by rw [eS_118, SL_X12_leave_118, if_neg c_12, if_neg c_13, if_pos c_15, if_pos c_16, if_neg c_17])
              refine v_widen (k2 := (vPb (S_X12_adds (s3 (s3 (s3 (S_X12_isWrong g (0)) 54 (x).toNatClampNeg (u).toNatClampNeg ((g 50 (x).toNatClampNeg 0))) 52 (x).toNatClampNeg (u).toNatClampNeg (0)) 50 (x).toNatClampNeg 0 (((g 50 (x).toNatClampNeg 0) + 1))) (pMix ((200 + x)) (u))) - vPb g)) (n2 := (2 * (vPb (S_X12_adds (s3 (s3 (s3 (S_X12_isWrong g (0)) 54 (x).toNatClampNeg (u).toNatClampNeg ((g 50 (x).toNatClampNeg 0))) 52 (x).toNatClampNeg (u).toNatClampNeg (0)) 50 (x).toNatClampNeg 0 (((g 50 (x).toNatClampNeg 0) + 1))) (pMix ((200 + x)) (u))) - vPb g))) (by omega) (by omega) ?_
              exact L_118 (20 + 1) A 0 (0) (S_X12_adds (s3 (s3 (s3 (S_X12_isWrong g (0)) 54 (x).toNatClampNeg (u).toNatClampNeg ((g 50 (x).toNatClampNeg 0))) 52 (x).toNatClampNeg (u).toNatClampNeg (0)) 50 (x).toNatClampNeg 0 (((g 50 (x).toNatClampNeg 0) + 1))) (pMix ((200 + x)) (u))) (by omega) (by omega) (fun c i j h1 h11 h13 h50 h52 h54 h56 h57 h59 h61 h65 h67 h73 => (F_X12_adds h11 h73).trans ((s3_k h50).trans ((s3_k h52).trans ((s3_k h54).trans (F_X12_isWrong h1))))) vAs_r (Nat.le_of_eq (vPb_k (fun _ _ => (F_X12_adds (by decide) (by decide)).trans ((s3_k (by decide)).trans ((s3_k (by decide)).trans ((s3_k (by decide)).trans (F_X12_isWrong (by decide))))))).symm) (vM1_k (fun _ _ => F_X12_adds (by decide) (by decide)) (vM1_k (fun _ _ => s3_k (by decide)) (vM1_k (fun _ _ => s3_k (by decide)) (vM1_k (fun _ _ => s3_k (by decide)) (vM1_k (fun _ _ => F_X12_isWrong (by decide)) h1))))) (vM2_k (fun _ _ => F_X12_adds (by decide) (by decide)) (fun _ _ => F_X12_adds (by decide) (by decide)) (vM2_k (fun _ _ => s3_k (by decide)) (fun _ _ => s3_k (by decide)) (vM2_k (fun _ _ => s3_k (by decide)) (fun _ _ => s3_k (by decide)) (vM2_k (fun _ _ => s3_k (by decide)) (fun _ _ => s3_k (by decide)) (vM2_k (fun _ _ => F_X12_isWrong (by decide)) (fun _ _ => F_X12_isWrong (by decide)) h2))))) (vM3_k (fun _ _ => F_X12_adds (by decide) (by decide)) (fun _ _ => F_X12_adds (by decide) (by decide)) (vM3_k (fun _ _ => s3_k (by decide)) (fun _ _ => s3_k (by decide)) (vM3_k (fun _ _ => s3_k (by decide)) (fun _ _ => s3_k (by decide)) (vM3_k (fun _ _ => s3_k (by decide)) (fun _ _ => s3_k (by decide)) (vM3_k (fun _ _ => F_X12_isWrong (by decide)) (fun _ _ => F_X12_isWrong (by decide)) h3))))) (vM7_k (fun _ _ => F_X12_adds (by decide) (by decide)) (fun _ _ => F_X12_adds (by decide) (by decide)) (vM7_k (fun _ _ => s3_k (by decide)) (fun _ _ => s3_k (by decide)) (vM7_k (fun _ _ => s3_k (by decide)) (fun _ _ => s3_k (by decide)) (vM7_k (fun _ _ => s3_k (by decide)) (fun _ _ => s3_k (by decide)) (vM7_k (fun _ _ => F_X12_isWrong (by decide)) (fun _ _ => F_X12_isWrong (by decide)) h7))))) (by rw [V_X12_leave, if_neg c_2, if_neg c_5, if_neg c_7, if_neg c_8, if_pos c_10]) (by rw [S_X12_leave, if_neg c_2, if_neg c_5, if_neg c_7, if_neg c_8, if_pos c_10])
            · skip
              exact absurd c_11 (fun q9 => q9 ((show (0 : Int32) = 0 from rfl)))
          · skip
            refine v_iconst (v := 3) (pc := 53) C dX12_leave_53 rfl ?_
            refine v_goto (tgt := 58) (pc := 54) C dX12_leave_54 (by decide) ?_
            refine v_callV (pc := 58) C (40, 0) ck_40 rfl (c_X12_isWrong hG (g := g) (3) ) 1 wd_1531 wd_68 wd_1528 wd_1530 wd_35 (by decide +kernel) (by decide) (by decide) rfl ([]) rfl (Nat.le_of_ble_eq_true rfl) ⟨Nat.zero_le _, Nat.zero_le _⟩ dX12_leave_58 (fun _ _ _ q => q.elim) (fun v9 A9 h9 hR9 => ?_)
            obtain ⟨rfl, hA9, rfl⟩ := hR9
            obtain rfl := hA9.symm
            refine v_st (k2 := 0) (n2 := 0) (st2 := [.int ((V_X12_isWrong g (3)))]) rfl rfl rfl ?_
            refine v_if_eq (pc := 61) (tgt := 66) C dX12_leave_61 (by decide) (fun c_21 => ?_) (fun c_21 => ?_)
            · skip
              exact absurd c_21 (fun q9 => ((show ¬ (1 : Int32) = 0 from by decide)) q9)
            · skip
              refine v_iconst (v := 0) (pc := 64) C dX12_leave_64 rfl ?_
              exact v_iret (pc := 65) C (Nat.zero_le _) (Nat.zero_le _) dX12_leave_65 ⟨(congrArg (fun q => some (Value.int q)) (by show _ = _; rw [V_X12_leave, if_neg c_2, if_neg c_5, if_neg c_7, if_neg c_8, if_neg c_10])), vAs_r, (congrArg (fun q => wm q r) (by show _ = _; rw [S_X12_leave, if_neg c_2, if_neg c_5, if_neg c_7, if_neg c_8, if_neg c_10]))⟩
        · skip
          refine v_iconst (v := 2) (pc := 42) C dX12_leave_42 rfl ?_
          refine v_goto (tgt := 58) (pc := 43) C dX12_leave_43 (by decide) ?_
          refine v_callV (pc := 58) C (40, 0) ck_40 rfl (c_X12_isWrong hG (g := g) (2) ) 1 wd_1531 wd_68 wd_1528 wd_1530 wd_35 (by decide +kernel) (by decide) (by decide) rfl ([]) rfl (Nat.le_of_ble_eq_true rfl) ⟨Nat.zero_le _, Nat.zero_le _⟩ dX12_leave_58 (fun _ _ _ q => q.elim) (fun v9 A9 h9 hR9 => ?_)
          obtain ⟨rfl, hA9, rfl⟩ := hR9
          obtain rfl := hA9.symm
          refine v_st (k2 := 0) (n2 := 0) (st2 := [.int ((V_X12_isWrong g (2)))]) rfl rfl rfl ?_
          refine v_if_eq (pc := 61) (tgt := 66) C dX12_leave_61 (by decide) (fun c_22 => ?_) (fun c_22 => ?_)
          · skip
            exact absurd c_22 (fun q9 => ((show ¬ (1 : Int32) = 0 from by decide)) q9)
          · skip
            refine v_iconst (v := 0) (pc := 64) C dX12_leave_64 rfl ?_
            exact v_iret (pc := 65) C (Nat.zero_le _) (Nat.zero_le _) dX12_leave_65 ⟨(congrArg (fun q => some (Value.int q)) (by show _ = _; rw [V_X12_leave, if_neg c_2, if_neg c_5, if_neg c_7, if_pos c_8])), vAs_r, (congrArg (fun q => wm q r) (by show _ = _; rw [S_X12_leave, if_neg c_2, if_neg c_5, if_neg c_7, if_pos c_8]))⟩
      · skip
        refine v_iconst (v := 1) (pc := 28) C dX12_leave_28 rfl ?_
        refine v_goto (tgt := 58) (pc := 29) C dX12_leave_29 (by decide) ?_
        refine v_callV (pc := 58) C (40, 0) ck_40 rfl (c_X12_isWrong hG (g := g) (1) ) 1 wd_1531 wd_68 wd_1528 wd_1530 wd_35 (by decide +kernel) (by decide) (by decide) rfl ([]) rfl (Nat.le_of_ble_eq_true rfl) ⟨Nat.zero_le _, Nat.zero_le _⟩ dX12_leave_58 (fun _ _ _ q => q.elim) (fun v9 A9 h9 hR9 => ?_)
        obtain ⟨rfl, hA9, rfl⟩ := hR9
        obtain rfl := hA9.symm
        refine v_st (k2 := 0) (n2 := 0) (st2 := [.int ((V_X12_isWrong g (1)))]) rfl rfl rfl ?_
        refine v_if_eq (pc := 61) (tgt := 66) C dX12_leave_61 (by decide) (fun c_23 => ?_) (fun c_23 => ?_)
        · skip
          exact absurd c_23 (fun q9 => ((show ¬ (1 : Int32) = 0 from by decide)) q9)
        · skip
          refine v_iconst (v := 0) (pc := 64) C dX12_leave_64 rfl ?_
          exact v_iret (pc := 65) C (Nat.zero_le _) (Nat.zero_le _) dX12_leave_65 ⟨(congrArg (fun q => some (Value.int q)) (by show _ = _; rw [V_X12_leave, if_neg c_2, if_neg c_5, if_pos c_7])), vAs_r, (congrArg (fun q => wm q r) (by show _ = _; rw [S_X12_leave, if_neg c_2, if_neg c_5, if_pos c_7]))⟩
def VL_X12_purge_40 (g : vS)  (i_9 : Nat) (x_9_1 : Int32) (q_9 : vS) (K : Nat → Int32 → vS → Int32) : Nat → Nat → Int32 → vS → Int32
  | 0, _, _, _ => 0
  | n + 1, i_40, x_40_1, q_40 => (if (g 68 i_9 0) = 0 then (K (i_9 + 1) (x_40_1) q_40) else (if 8 ≤ nI i_40 then (K (i_9 + 1) (x_40_1) q_40) else (VL_X12_purge_40 g i_9 x_9_1 q_9 K n (i_40 + 1) (x_40_1) (s3 q_40 63 i_9 i_40 (0)))))
def SL_X12_purge_40 (g : vS)  (i_9 : Nat) (x_9_1 : Int32) (q_9 : vS) (K : Nat → Int32 → vS → vS) : Nat → Nat → Int32 → vS → vS
  | 0, _, _, q9 => q9
  | n + 1, i_40, x_40_1, q_40 => (if (g 68 i_9 0) = 0 then (K (i_9 + 1) (x_40_1) q_40) else (if 8 ≤ nI i_40 then (K (i_9 + 1) (x_40_1) q_40) else (SL_X12_purge_40 g i_9 x_9_1 q_9 K n (i_40 + 1) (x_40_1) (s3 q_40 63 i_9 i_40 (0)))))
def VL_X12_purge_9 (g : vS)  : Nat → Nat → Int32 → vS → Int32
  | 0, _, _, _ => 0
  | n + 1, i_9, x_9_1, q_9 => (if (g 4 0 0) ≤ nI i_9 then x_9_1 else (if (g 68 i_9 0) = 0 then (VL_X12_purge_40 g i_9 x_9_1 q_9 (VL_X12_purge_9 g n) (8 + 1) 0 ((x_9_1 + 0)) q_9) else (VL_X12_purge_40 g i_9 x_9_1 q_9 (VL_X12_purge_9 g n) (8 + 1) 0 ((x_9_1 + (V_X12_partsOf q_9 (nI i_9)))) q_9)))
def SL_X12_purge_9 (g : vS)  : Nat → Nat → Int32 → vS → vS
  | 0, _, _, q9 => q9
  | n + 1, i_9, x_9_1, q_9 => (if (g 4 0 0) ≤ nI i_9 then q_9 else (if (g 68 i_9 0) = 0 then (SL_X12_purge_40 g i_9 x_9_1 q_9 (SL_X12_purge_9 g n) (8 + 1) 0 ((x_9_1 + 0)) q_9) else (SL_X12_purge_40 g i_9 x_9_1 q_9 (SL_X12_purge_9 g n) (8 + 1) 0 ((x_9_1 + (V_X12_partsOf q_9 (nI i_9)))) q_9)))
def V_X12_purge (g : vS)  : Int32 := (VL_X12_purge_9 g (20 + 1) 0 (0) (s3 g 1 0 0 (0)))
def S_X12_purge (g : vS)  : vS := (SL_X12_purge_9 g (20 + 1) 0 (0) (s3 g 1 0 0 (0)))
theorem FL_X12_purge_40 {g : vS}  {i_9 : Nat} {x_9_1 : Int32} {q_9 : vS} {K : Nat → Int32 → vS → vS} {c i j : Nat} (h1 : c ≠ 1) (h63 : c ≠ 63) (hK : ∀ (b0 : Nat) (b1 : Int32) (b2 : vS), b2 c i j = g c i j → K b0 b1 b2 c i j = g c i j) : ∀ (n : Nat) (a0 : Nat) (a1 : Int32) (a2 : vS), a2 c i j = g c i j → SL_X12_purge_40 g i_9 x_9_1 q_9 K n a0 a1 a2 c i j = g c i j := by
  intro n
  induction n with
  | zero => intro a0 a1 a2 hq9; exact hq9
  | succ n ih =>
    intro a0 a1 a2 hq9
    simp only [SL_X12_purge_40]
    (repeat' split) <;> first | rfl | exact hq9 | (apply ih; first | exact hq9 | rfl | trivial | ((simp only [s3_k h1, s3_k h63]) <;> first | done | exact hq9 | rfl)) | (apply hK; first | exact hq9 | rfl | ((try simp only [s3_k h1, s3_k h63]) <;> first | exact hq9 | rfl)) | ((simp only [s3_k h1, s3_k h63]) <;> first | done | exact hq9 | rfl)
theorem FL_X12_purge_9 {g : vS}  {c i j : Nat} (h1 : c ≠ 1) (h63 : c ≠ 63) : ∀ (n : Nat) (a0 : Nat) (a1 : Int32) (a2 : vS), a2 c i j = g c i j → SL_X12_purge_9 g n a0 a1 a2 c i j = g c i j := by
  intro n
  induction n with
  | zero => intro a0 a1 a2 hq9; exact hq9
  | succ n ih =>
    intro a0 a1 a2 hq9
    simp only [SL_X12_purge_9]
    (repeat' split) <;> first | rfl | exact hq9 | (apply ih; first | exact hq9 | rfl | trivial | ((simp only [s3_k h1, s3_k h63]) <;> first | done | exact hq9 | rfl)) | (apply FL_X12_purge_40 h1 h63 (fun b0 b1 b2 h9 => ih b0 b1 b2 h9); first | exact hq9 | rfl | ((try simp only [s3_k h1, s3_k h63]) <;> first | exact hq9 | rfl)) | ((simp only [s3_k h1, s3_k h63]) <;> first | done | exact hq9 | rfl)
theorem F_X12_purge {g : vS}  {c i j : Nat} (h1 : c ≠ 1) (h63 : c ≠ 63) : S_X12_purge g c i j = g c i j := by
  unfold S_X12_purge
  (repeat' split) <;> first | rfl | (apply FL_X12_purge_40 h1 h63; first | rfl | trivial | ((simp only [s3_k h1, s3_k h63]) <;> first | done | rfl)) | (apply FL_X12_purge_9 h1 h63; first | rfl | trivial | ((simp only [s3_k h1, s3_k h63]) <;> first | done | rfl)) | ((simp only [s3_k h1, s3_k h63]) <;> first | done | rfl)
set_option maxHeartbeats 4000000 in
set_option maxRecDepth 100000 in
theorem c_X12_purge {G : vG} (hG : G.1.stackTraces = false) {A : vN → Nat} {g : vS} {r : vH}  (hu0 : 0 ≤ (g 2 0 0).toInt) (hu : (g 2 0 0).toInt ≤ 6) (hg0 : 0 ≤ (g 3 0 0).toInt) (hg : (g 3 0 0).toInt ≤ 5) (hf0 : 0 ≤ (g 4 0 0).toInt) (hf : (g 4 0 0).toInt ≤ 20) : vCt G yX12_purge cX12_purge 4 (some .int) 1 [.ref (A (40, 0))] A (wm g r) (fun v A2 h2 => v = some (.int (V_X12_purge g)) ∧ A2 = A ∧ h2 = wm (S_X12_purge g) r) (vNoX) 0 0 := by
  refine v_of hG (by decide +kernel) (Nat.le_of_ble_eq_true rfl) (lv := [(0, .ref (A (40, 0)))]) rfl (fun X C hnx => ?_)
  have C : vC G X cX12_purge 4 RX12 (some .int) "purge" 1 0 0 := C
  refine v_aload_n (pc := 0) C dX12_purge_0 0 rfl rfl ?_
  refine v_iconst (v := 0) (pc := 1) C dX12_purge_1 rfl ?_
  refine v_put (pc := 2) C (40, 0) (v := .int (0)) ck_40 rfl 0 (by decide) inX12 tyX12 tyX12_ok nmX12 wd_1388 rfl (.inl (Value.int (0))) rfl (ty := tyX12 0) (by decide +kernel) rfl rfl (Nat.le_of_ble_eq_true rfl) dX12_purge_2 ?_
  refine v_h (h2 := (wm (s3 g 1 0 0 (0)) r)) (u_40_0) ?_
  refine v_iconst (v := 0) (pc := 5) C dX12_purge_5 rfl ?_
  refine v_istore_n (lv2 := [(1, .int (0)), (0, .ref (A (40, 0)))]) (pc := 6) C dX12_purge_6 rfl (by decide) rfl ?_
  refine v_iconst (v := 0) (pc := 7) C dX12_purge_7 rfl ?_
  refine v_istore_n (lv2 := [(2, .int (0)), (1, .int (0)), (0, .ref (A (40, 0)))]) (pc := 8) C dX12_purge_8 rfl (by decide) rfl ?_
  have L_9 : ∀ (n : Nat) (i_9 : Nat) (x_9_1 : Int32) (q_9 : vS), i_9 ≤ 20 → 20 + 1 ≤ i_9 + n → (∀ (c i j : Nat), c ≠ 1 → c ≠ 63 → q_9 c i j = g c i j) → (V_X12_purge g) = VL_X12_purge_9 g n i_9 x_9_1 q_9 → (S_X12_purge g) = SL_X12_purge_9 g n i_9 x_9_1 q_9 → V G 4 X A (wm q_9 r) 0 0 (vM G X (fun v A2 h2 => v = some (.int (V_X12_purge g)) ∧ A2 = A ∧ h2 = wm (S_X12_purge g) r) (vNoX) 0 0) 9 [(2, .int (nI i_9)), (1, .int (x_9_1)), (0, .ref (A (40, 0)))] [] := by
    intro n
    induction n with
    | zero => intro i_9 x_9_1 q_9 hi_9 hc_9 hF_9 eV_9 eS_9; exact absurd hc_9 (by omega)
    | succ n ih =>
      intro i_9 x_9_1 q_9 hi_9 hc_9 hF_9 eV_9 eS_9
      have hq_9 : (nI i_9).toInt = (i_9 : Int) := nI_toInt (by omega)
      have hr_9 : (nI (i_9 + 1)).toInt = ((i_9 + 1 : Nat) : Int) := nI_toInt (by omega)
      refine v_iload_n (pc := 9) C dX12_purge_9 0 rfl rfl ?_
      refine v_aload_n (pc := 10) C dX12_purge_10 2 rfl rfl ?_
      refine v_get (pc := 11) C (40, 0) (v := .int ((g 4 0 0))) ck_40 rfl 24 (by decide) inX12 wd_1412 rfl (congrArg Value.int (hF_9 _ _ _ (by decide) (by decide))) dX12_purge_11 ?_
      refine v_icmp_ge (pc := 14) (tgt := 76) C dX12_purge_14 (by decide) (fun c_1 => ?_) (fun c_1 => ?_)
      · skip
        refine v_iload_n (pc := 76) C dX12_purge_76 1 rfl rfl ?_
        exact v_iret (pc := 77) C (by decide) (by decide) dX12_purge_77 ⟨(congrArg (fun q => some (Value.int q)) (by show _ = _; rw [eV_9, VL_X12_purge_9, if_pos c_1])), rfl, (congrArg (fun q => wm q r) (by show _ = _; rw [eS_9, SL_X12_purge_9, if_pos c_1]))⟩
      · skip
        refine v_iload_n (pc := 17) C dX12_purge_17 1 rfl rfl ?_
        refine v_aload_n (pc := 18) C dX12_purge_18 2 rfl rfl ?_
        refine v_get (pc := 19) C (40, 0) (v := .ref (A (68, 0))) ck_40 rfl 23 (by decide) inX12 wd_1411 rfl rfl dX12_purge_19 ?_
        refine v_iload_n (pc := 22) C dX12_purge_22 0 rfl rfl ?_
        refine v_zald (pc := 23) C (68, 0) (v := (g 68 i_9 0)) ck_68 (by (try simp only [Int32.le_iff_toInt_le, Int32.lt_iff_toInt_lt, ← Int32.toInt_inj, vp_in_iff, Int32.reduceToInt] at c_1 hq_9 hr_9 hu hg hf ⊢) <;> omega) ((congrArg (fun k => q_9 68 k 0) (show (nI i_9 : Int32).toNatClampNeg = i_9 from (nI_clamp (by omega)))).trans (hF_9 _ _ _ (by decide) (by decide))) dX12_purge_23 ?_
        refine v_if_eq (pc := 24) (tgt := 35) C dX12_purge_24 (by decide) (fun c_2 => ?_) (fun c_2 => ?_)
        · skip
          refine v_iconst (v := 0) (pc := 35) C dX12_purge_35 rfl ?_
          refine v_iadd (pc := 36) C dX12_purge_36 ?_
          refine v_istore_n (lv2 := [(1, .int ((x_9_1 + 0))), (2, .int (nI i_9)), (0, .ref (A (40, 0)))]) (pc := 37) C dX12_purge_37 rfl (by decide) rfl ?_
          refine v_iconst (v := 0) (pc := 38) C dX12_purge_38 rfl ?_
          refine v_istore_n (lv2 := [(3, .int (0)), (1, .int ((x_9_1 + 0))), (2, .int (nI i_9)), (0, .ref (A (40, 0)))]) (pc := 39) C dX12_purge_39 rfl (by decide) rfl ?_
          have L_40 : ∀ (n2 : Nat) (i_40 : Nat) (x_40_1 : Int32) (q_40 : vS), i_40 ≤ 8 → 8 + 1 ≤ i_40 + n2 → (∀ (c i j : Nat), c ≠ 1 → c ≠ 63 → q_40 c i j = g c i j) → (V_X12_purge g) = VL_X12_purge_40 g i_9 x_9_1 q_9 (VL_X12_purge_9 g n) n2 i_40 x_40_1 q_40 → (S_X12_purge g) = SL_X12_purge_40 g i_9 x_9_1 q_9 (SL_X12_purge_9 g n) n2 i_40 x_40_1 q_40 → V G 4 X A (wm q_40 r) 0 0 (vM G X (fun v A2 h2 => v = some (.int (V_X12_purge g)) ∧ A2 = A ∧ h2 = wm (S_X12_purge g) r) (vNoX) 0 0) 40 [(3, .int (nI i_40)), (1, .int (x_40_1)), (2, .int (nI i_9)), (0, .ref (A (40, 0)))] [] := by
            intro n2
            induction n2 with
            | zero => intro i_40 x_40_1 q_40 hi_40 hc_40 hF_40 eV_40 eS_40; exact absurd hc_40 (by omega)
            | succ n2 ih2 =>
              intro i_40 x_40_1 q_40 hi_40 hc_40 hF_40 eV_40 eS_40
              have hq_40 : (nI i_40).toInt = (i_40 : Int) := nI_toInt (by omega)
              have hr_40 : (nI (i_40 + 1)).toInt = ((i_40 + 1 : Nat) : Int) := nI_toInt (by omega)
              refine v_aload_n (pc := 40) C dX12_purge_40 3 rfl rfl ?_
              refine v_get (pc := 41) C (40, 0) (v := .ref (A (68, 0))) ck_40 rfl 23 (by decide) inX12 wd_1411 rfl rfl dX12_purge_41 ?_
              refine v_iload_n (pc := 44) C dX12_purge_44 2 rfl rfl ?_
              refine v_zald (pc := 45) C (68, 0) (v := (g 68 i_9 0)) ck_68 (by (try simp only [Int32.le_iff_toInt_le, Int32.lt_iff_toInt_lt, ← Int32.toInt_inj, vp_in_iff, Int32.reduceToInt] at c_1 c_2 hq_9 hr_9 hq_40 hr_40 hu hg hf ⊢) <;> omega) ((congrArg (fun k => q_40 68 k 0) (show (nI i_9 : Int32).toNatClampNeg = i_9 from (nI_clamp (by omega)))).trans (hF_40 _ _ _ (by decide) (by decide))) dX12_purge_45 ?_
              refine v_if_eq (pc := 46) (tgt := 70) C dX12_purge_46 (by decide) (fun c_3 => ?_) (fun c_3 => ?_)
              · skip
                refine v_iinc (v := nI (i_9 + 1)) (lv2 := [(2, .int (nI (i_9 + 1))), (3, .int (nI i_40)), (1, .int (x_40_1)), (0, .ref (A (40, 0)))]) (pc := 70) C dX12_purge_70 2 rfl (nI_1 _) (by decide) rfl ?_
                refine v_goto (tgt := 9) (pc := 73) C dX12_purge_73 (by decide) ?_
                refine v_lv (lv2 := [(2, .int (nI (i_9 + 1))), (1, .int (x_40_1)), (0, .ref (A (40, 0)))]) [0, 2, 3] rfl ?_
                exact ih (i_9 + 1) (x_40_1) q_40 (by (try simp only [Int32.le_iff_toInt_le, Int32.lt_iff_toInt_lt, ← Int32.toInt_inj, vp_in_iff, Int32.reduceToInt] at c_1 c_2 c_3 hq_9 hr_9 hq_40 hr_40 hu hg hf ⊢) <;> omega) (by omega) (fun c i j h1 h63 => hF_40 c i j h1 h63) (by rw [eV_40, VL_X12_purge_40, if_pos c_3]) (by rw [eS_40, SL_X12_purge_40, if_pos c_3])
              · skip
                refine v_iload_n (pc := 49) C dX12_purge_49 0 rfl rfl ?_
                refine v_bipush (v := 8) (pc := 50) C dX12_purge_50 (by decide) ?_
                refine v_icmp_ge (pc := 52) (tgt := 70) C dX12_purge_52 (by decide) (fun c_4 => ?_) (fun c_4 => ?_)
                · skip
                  refine v_iinc (v := nI (i_9 + 1)) (lv2 := [(2, .int (nI (i_9 + 1))), (3, .int (nI i_40)), (1, .int (x_40_1)), (0, .ref (A (40, 0)))]) (pc := 70) C dX12_purge_70 2 rfl (nI_1 _) (by decide) rfl ?_
                  refine v_goto (tgt := 9) (pc := 73) C dX12_purge_73 (by decide) ?_
                  refine v_lv (lv2 := [(2, .int (nI (i_9 + 1))), (1, .int (x_40_1)), (0, .ref (A (40, 0)))]) [0, 2, 3] rfl ?_
                  exact ih (i_9 + 1) (x_40_1) q_40 (by (try simp only [Int32.le_iff_toInt_le, Int32.lt_iff_toInt_lt, ← Int32.toInt_inj, vp_in_iff, Int32.reduceToInt] at c_1 c_2 c_3 c_4 hq_9 hr_9 hq_40 hr_40 hu hg hf ⊢) <;> omega) (by omega) (fun c i j h1 h63 => hF_40 c i j h1 h63) (by rw [eV_40, VL_X12_purge_40, if_neg c_3, if_pos c_4]) (by rw [eS_40, SL_X12_purge_40, if_neg c_3, if_pos c_4])
                · skip
                  refine v_aload_n (pc := 55) C dX12_purge_55 3 rfl rfl ?_
                  refine v_get (pc := 56) C (40, 0) (v := .ref (A (62, 0))) ck_40 rfl 20 (by decide) inX12 wd_1408 rfl rfl dX12_purge_56 ?_
                  refine v_iload_n (pc := 59) C dX12_purge_59 2 rfl rfl ?_
                  refine v_aald (pc := 60) C (62, 0) ck_62 rfl rfl (by (try simp only [Int32.le_iff_toInt_le, Int32.lt_iff_toInt_lt, ← Int32.toInt_inj, vp_in_iff, Int32.reduceToInt] at c_1 c_2 c_3 c_4 hq_9 hr_9 hq_40 hr_40 hu hg hf ⊢) <;> omega) (63, i_9) (congrArg (fun k => some ((63, k) : vN)) (show (nI i_9 : Int32).toNatClampNeg = i_9 from (nI_clamp (by omega)))) dX12_purge_60 ?_
                  refine v_iload_n (pc := 61) C dX12_purge_61 0 rfl rfl ?_
                  refine v_iconst (v := 0) (pc := 62) C dX12_purge_62 rfl ?_
                  refine v_iast (pc := 63) C (63, i_9) (x := 0) (ck_63 (g := q_40) (by (try simp only [Int32.le_iff_toInt_le, Int32.lt_iff_toInt_lt, ← Int32.toInt_inj, Int32.reduceToInt] at c_1 c_2 c_3 c_4 hq_9 hr_9 hq_40 hr_40 hu hg hf); omega)) (by (try simp only [Int32.le_iff_toInt_le, Int32.lt_iff_toInt_lt, ← Int32.toInt_inj, vp_in_iff, Int32.reduceToInt] at c_1 c_2 c_3 c_4 hq_9 hr_9 hq_40 hr_40 hu hg hf ⊢) <;> omega) dX12_purge_63 ?_
                  rw [show (nI i_40 : Int32).toNatClampNeg = i_40 from (nI_clamp (by omega))]
                  refine v_h (h2 := (wm (s3 q_40 63 i_9 i_40 (0)) r)) (u_63_a (g := q_40) (by (try simp only [Int32.le_iff_toInt_le, Int32.lt_iff_toInt_lt, ← Int32.toInt_inj, Int32.reduceToInt] at c_1 c_2 c_3 c_4 hq_9 hr_9 hq_40 hr_40 hu hg hf); omega)) ?_
                  refine v_iinc (v := nI (i_40 + 1)) (lv2 := [(3, .int (nI (i_40 + 1))), (1, .int (x_40_1)), (2, .int (nI i_9)), (0, .ref (A (40, 0)))]) (pc := 64) C dX12_purge_64 0 rfl (nI_1 _) (by decide) rfl ?_
                  refine v_goto (tgt := 40) (pc := 67) C dX12_purge_67 (by decide) ?_
                  refine v_lv (lv2 := [(3, .int (nI (i_40 + 1))), (1, .int (x_40_1)), (2, .int (nI i_9)), (0, .ref (A (40, 0)))]) [0, 1, 2, 3] rfl ?_
                  exact ih2 (i_40 + 1) (x_40_1) (s3 q_40 63 i_9 i_40 (0)) (by (try simp only [Int32.le_iff_toInt_le, Int32.lt_iff_toInt_lt, ← Int32.toInt_inj, vp_in_iff, Int32.reduceToInt] at c_1 c_2 c_3 c_4 hq_9 hr_9 hq_40 hr_40 hu hg hf ⊢) <;> omega) (by omega) (fun c i j h1 h63 => (s3_k h63).trans (hF_40 c i j h1 h63)) (by rw [eV_40, VL_X12_purge_40, if_neg c_3, if_neg c_4]) (by rw [eS_40, SL_X12_purge_40, if_neg c_3, if_neg c_4])
          exact L_40 (8 + 1) 0 ((x_9_1 + 0)) q_9 (by omega) (by omega) (fun c i j h1 h63 => hF_9 c i j h1 h63) (by rw [eV_9, VL_X12_purge_9, if_neg c_1, if_pos c_2]) (by rw [eS_9, SL_X12_purge_9, if_neg c_1, if_pos c_2])
        · skip
          refine v_aload_n (pc := 27) C dX12_purge_27 2 rfl rfl ?_
          refine v_iload_n (pc := 28) C dX12_purge_28 0 rfl rfl ?_
          refine v_callV (pc := 29) C (40, 0) ck_40 rfl (c_X12_partsOf hG (g := q_9) (nI i_9) (by rw [show q_9 2 0 0 = g 2 0 0 from hF_9 _ _ _ (by decide) (by decide)]; exact hu0) (by rw [show q_9 2 0 0 = g 2 0 0 from hF_9 _ _ _ (by decide) (by decide)]; exact hu) (by rw [show q_9 3 0 0 = g 3 0 0 from hF_9 _ _ _ (by decide) (by decide)]; exact hg0) (by rw [show q_9 3 0 0 = g 3 0 0 from hF_9 _ _ _ (by decide) (by decide)]; exact hg) (by rw [show q_9 4 0 0 = g 4 0 0 from hF_9 _ _ _ (by decide) (by decide)]; exact hf0) (by rw [show q_9 4 0 0 = g 4 0 0 from hF_9 _ _ _ (by decide) (by decide)]; exact hf) (by (try simp only [Int32.le_iff_toInt_le, Int32.lt_iff_toInt_lt, ← Int32.toInt_inj, Int32.reduceToInt] at c_1 c_2 hq_9 hr_9 hu hg hf ⊢); omega) (by (try simp only [Int32.le_iff_toInt_le, Int32.lt_iff_toInt_lt, ← Int32.toInt_inj, Int32.reduceToInt] at c_1 c_2 hq_9 hr_9 hu hg hf ⊢); omega)) 1 wd_1628 wd_68 wd_1625 wd_1627 wd_48 (by decide +kernel) (by decide) (by decide) rfl ([.int (x_9_1)]) rfl (Nat.le_of_ble_eq_true rfl) (by decide) dX12_purge_29 (fun _ _ _ q => q.elim) (fun v9 A9 h9 hR9 => ?_)
          obtain ⟨rfl, hA9, rfl⟩ := hR9
          obtain rfl := hA9.symm
          refine v_st (k2 := 0) (n2 := 0) (st2 := [.int ((V_X12_partsOf q_9 (nI i_9))), .int (x_9_1)]) rfl rfl rfl ?_
          refine v_goto (tgt := 36) (pc := 32) C dX12_purge_32 (by decide) ?_
          refine v_iadd (pc := 36) C dX12_purge_36 ?_
          refine v_istore_n (lv2 := [(1, .int ((x_9_1 + (V_X12_partsOf q_9 (nI i_9))))), (2, .int (nI i_9)), (0, .ref (A (40, 0)))]) (pc := 37) C dX12_purge_37 rfl (by decide) rfl ?_
          refine v_iconst (v := 0) (pc := 38) C dX12_purge_38 rfl ?_
          refine v_istore_n (lv2 := [(3, .int (0)), (1, .int ((x_9_1 + (V_X12_partsOf q_9 (nI i_9))))), (2, .int (nI i_9)), (0, .ref (A (40, 0)))]) (pc := 39) C dX12_purge_39 rfl (by decide) rfl ?_
          have L_40 : ∀ (n2 : Nat) (i_40 : Nat) (x_40_1 : Int32) (q_40 : vS), i_40 ≤ 8 → 8 + 1 ≤ i_40 + n2 → (∀ (c i j : Nat), c ≠ 1 → c ≠ 63 → q_40 c i j = g c i j) → (V_X12_purge g) = VL_X12_purge_40 g i_9 x_9_1 q_9 (VL_X12_purge_9 g n) n2 i_40 x_40_1 q_40 → (S_X12_purge g) = SL_X12_purge_40 g i_9 x_9_1 q_9 (SL_X12_purge_9 g n) n2 i_40 x_40_1 q_40 → V G 4 X A (wm q_40 r) 0 0 (vM G X (fun v A2 h2 => v = some (.int (V_X12_purge g)) ∧ A2 = A ∧ h2 = wm (S_X12_purge g) r) (vNoX) 0 0) 40 [(3, .int (nI i_40)), (1, .int (x_40_1)), (2, .int (nI i_9)), (0, .ref (A (40, 0)))] [] := by
            intro n2
            induction n2 with
            | zero => intro i_40 x_40_1 q_40 hi_40 hc_40 hF_40 eV_40 eS_40; exact absurd hc_40 (by omega)
            | succ n2 ih2 =>
              intro i_40 x_40_1 q_40 hi_40 hc_40 hF_40 eV_40 eS_40
              have hq_40 : (nI i_40).toInt = (i_40 : Int) := nI_toInt (by omega)
              have hr_40 : (nI (i_40 + 1)).toInt = ((i_40 + 1 : Nat) : Int) := nI_toInt (by omega)
              refine v_aload_n (pc := 40) C dX12_purge_40 3 rfl rfl ?_
              refine v_get (pc := 41) C (40, 0) (v := .ref (A (68, 0))) ck_40 rfl 23 (by decide) inX12 wd_1411 rfl rfl dX12_purge_41 ?_
              refine v_iload_n (pc := 44) C dX12_purge_44 2 rfl rfl ?_
              refine v_zald (pc := 45) C (68, 0) (v := (g 68 i_9 0)) ck_68 (by (try simp only [Int32.le_iff_toInt_le, Int32.lt_iff_toInt_lt, ← Int32.toInt_inj, vp_in_iff, Int32.reduceToInt] at c_1 c_2 hq_9 hr_9 hq_40 hr_40 hu hg hf ⊢) <;> omega) ((congrArg (fun k => q_40 68 k 0) (show (nI i_9 : Int32).toNatClampNeg = i_9 from (nI_clamp (by omega)))).trans (hF_40 _ _ _ (by decide) (by decide))) dX12_purge_45 ?_
              refine v_if_eq (pc := 46) (tgt := 70) C dX12_purge_46 (by decide) (fun c_5 => ?_) (fun c_5 => ?_)
              · skip
                refine v_iinc (v := nI (i_9 + 1)) (lv2 := [(2, .int (nI (i_9 + 1))), (3, .int (nI i_40)), (1, .int (x_40_1)), (0, .ref (A (40, 0)))]) (pc := 70) C dX12_purge_70 2 rfl (nI_1 _) (by decide) rfl ?_
                refine v_goto (tgt := 9) (pc := 73) C dX12_purge_73 (by decide) ?_
                refine v_lv (lv2 := [(2, .int (nI (i_9 + 1))), (1, .int (x_40_1)), (0, .ref (A (40, 0)))]) [0, 2, 3] rfl ?_
                exact ih (i_9 + 1) (x_40_1) q_40 (by (try simp only [Int32.le_iff_toInt_le, Int32.lt_iff_toInt_lt, ← Int32.toInt_inj, vp_in_iff, Int32.reduceToInt] at c_1 c_2 c_5 hq_9 hr_9 hq_40 hr_40 hu hg hf ⊢) <;> omega) (by omega) (fun c i j h1 h63 => hF_40 c i j h1 h63) (by rw [eV_40, VL_X12_purge_40, if_pos c_5]) (by rw [eS_40, SL_X12_purge_40, if_pos c_5])
              · skip
                refine v_iload_n (pc := 49) C dX12_purge_49 0 rfl rfl ?_
                refine v_bipush (v := 8) (pc := 50) C dX12_purge_50 (by decide) ?_
                refine v_icmp_ge (pc := 52) (tgt := 70) C dX12_purge_52 (by decide) (fun c_6 => ?_) (fun c_6 => ?_)
                · skip
                  refine v_iinc (v := nI (i_9 + 1)) (lv2 := [(2, .int (nI (i_9 + 1))), (3, .int (nI i_40)), (1, .int (x_40_1)), (0, .ref (A (40, 0)))]) (pc := 70) C dX12_purge_70 2 rfl (nI_1 _) (by decide) rfl ?_
                  refine v_goto (tgt := 9) (pc := 73) C dX12_purge_73 (by decide) ?_
                  refine v_lv (lv2 := [(2, .int (nI (i_9 + 1))), (1, .int (x_40_1)), (0, .ref (A (40, 0)))]) [0, 2, 3] rfl ?_
                  exact ih (i_9 + 1) (x_40_1) q_40 (by (try simp only [Int32.le_iff_toInt_le, Int32.lt_iff_toInt_lt, ← Int32.toInt_inj, vp_in_iff, Int32.reduceToInt] at c_1 c_2 c_5 c_6 hq_9 hr_9 hq_40 hr_40 hu hg hf ⊢) <;> omega) (by omega) (fun c i j h1 h63 => hF_40 c i j h1 h63) (by rw [eV_40, VL_X12_purge_40, if_neg c_5, if_pos c_6]) (by rw [eS_40, SL_X12_purge_40, if_neg c_5, if_pos c_6])
                · skip
                  refine v_aload_n (pc := 55) C dX12_purge_55 3 rfl rfl ?_
                  refine v_get (pc := 56) C (40, 0) (v := .ref (A (62, 0))) ck_40 rfl 20 (by decide) inX12 wd_1408 rfl rfl dX12_purge_56 ?_
                  refine v_iload_n (pc := 59) C dX12_purge_59 2 rfl rfl ?_
                  refine v_aald (pc := 60) C (62, 0) ck_62 rfl rfl (by (try simp only [Int32.le_iff_toInt_le, Int32.lt_iff_toInt_lt, ← Int32.toInt_inj, vp_in_iff, Int32.reduceToInt] at c_1 c_2 c_5 c_6 hq_9 hr_9 hq_40 hr_40 hu hg hf ⊢) <;> omega) (63, i_9) (congrArg (fun k => some ((63, k) : vN)) (show (nI i_9 : Int32).toNatClampNeg = i_9 from (nI_clamp (by omega)))) dX12_purge_60 ?_
                  refine v_iload_n (pc := 61) C dX12_purge_61 0 rfl rfl ?_
                  refine v_iconst (v := 0) (pc := 62) C dX12_purge_62 rfl ?_
                  refine v_iast (pc := 63) C (63, i_9) (x := 0) (ck_63 (g := q_40) (by (try simp only [Int32.le_iff_toInt_le, Int32.lt_iff_toInt_lt, ← Int32.toInt_inj, Int32.reduceToInt] at c_1 c_2 c_5 c_6 hq_9 hr_9 hq_40 hr_40 hu hg hf); omega)) (by (try simp only [Int32.le_iff_toInt_le, Int32.lt_iff_toInt_lt, ← Int32.toInt_inj, vp_in_iff, Int32.reduceToInt] at c_1 c_2 c_5 c_6 hq_9 hr_9 hq_40 hr_40 hu hg hf ⊢) <;> omega) dX12_purge_63 ?_
                  rw [show (nI i_40 : Int32).toNatClampNeg = i_40 from (nI_clamp (by omega))]
                  refine v_h (h2 := (wm (s3 q_40 63 i_9 i_40 (0)) r)) (u_63_a (g := q_40) (by (try simp only [Int32.le_iff_toInt_le, Int32.lt_iff_toInt_lt, ← Int32.toInt_inj, Int32.reduceToInt] at c_1 c_2 c_5 c_6 hq_9 hr_9 hq_40 hr_40 hu hg hf); omega)) ?_
                  refine v_iinc (v := nI (i_40 + 1)) (lv2 := [(3, .int (nI (i_40 + 1))), (1, .int (x_40_1)), (2, .int (nI i_9)), (0, .ref (A (40, 0)))]) (pc := 64) C dX12_purge_64 0 rfl (nI_1 _) (by decide) rfl ?_
                  refine v_goto (tgt := 40) (pc := 67) C dX12_purge_67 (by decide) ?_
                  refine v_lv (lv2 := [(3, .int (nI (i_40 + 1))), (1, .int (x_40_1)), (2, .int (nI i_9)), (0, .ref (A (40, 0)))]) [0, 1, 2, 3] rfl ?_
                  exact ih2 (i_40 + 1) (x_40_1) (s3 q_40 63 i_9 i_40 (0)) (by (try simp only [Int32.le_iff_toInt_le, Int32.lt_iff_toInt_lt, ← Int32.toInt_inj, vp_in_iff, Int32.reduceToInt] at c_1 c_2 c_5 c_6 hq_9 hr_9 hq_40 hr_40 hu hg hf ⊢) <;> omega) (by omega) (fun c i j h1 h63 => (s3_k h63).trans (hF_40 c i j h1 h63)) (by rw [eV_40, VL_X12_purge_40, if_neg c_5, if_neg c_6]) (by rw [eS_40, SL_X12_purge_40, if_neg c_5, if_neg c_6])
          exact L_40 (8 + 1) 0 ((x_9_1 + (V_X12_partsOf q_9 (nI i_9)))) q_9 (by omega) (by omega) (fun c i j h1 h63 => hF_9 c i j h1 h63) (by rw [eV_9, VL_X12_purge_9, if_neg c_1, if_neg c_2]) (by rw [eS_9, SL_X12_purge_9, if_neg c_1, if_neg c_2])
  exact L_9 (20 + 1) 0 (0) (s3 g 1 0 0 (0)) (by omega) (by omega) (fun c i j h1 h63 => s3_k h1) (by rw [V_X12_purge]) (by rw [S_X12_purge])
def VL_X12_recovered_58 (g : vS)  (i_25 : Nat) (x_25_1 : Int64) (q_25 : vS) (K : Nat → Int64 → vS → Int32) : Nat → Nat → Int64 → Int64 → vS → Int32
  | 0, _, _, _, _ => 0
  | n + 1, i_58, x_58_6, x_58_4, q_58 => (if 8 < nI i_58 then (K (i_25 + 1) ((x_25_1 + ((x_58_4 * (V_X12_power q_58 (x_58_6) (65519))) - (x_58_4 * (V_X12_power q_58 (x_58_6) (65519))) / 65521 * 65521))) q_58) else (if nI i_58 = nI i_25 then (VL_X12_recovered_58 g i_25 x_25_1 q_25 K n (i_58 + 1) (x_58_6) (x_58_4) q_58) else (if 0 ≤ (g 74 i_58 0) then (VL_X12_recovered_58 g i_25 x_25_1 q_25 K n (i_58 + 1) (((x_58_6 * (((65521 + nI i_58) - nI i_25) : Int32).toInt64) - (x_58_6 * (((65521 + nI i_58) - nI i_25) : Int32).toInt64) / 65521 * 65521)) (((x_58_4 * (nI i_58 : Int32).toInt64) - (x_58_4 * (nI i_58 : Int32).toInt64) / 65521 * 65521)) q_58) else (VL_X12_recovered_58 g i_25 x_25_1 q_25 K n (i_58 + 1) (x_58_6) (x_58_4) q_58))))
def SL_X12_recovered_58 (g : vS)  (i_25 : Nat) (x_25_1 : Int64) (q_25 : vS) (K : Nat → Int64 → vS → vS) : Nat → Nat → Int64 → Int64 → vS → vS
  | 0, _, _, _, q9 => q9
  | n + 1, i_58, x_58_6, x_58_4, q_58 => (if 8 < nI i_58 then (K (i_25 + 1) ((x_25_1 + ((x_58_4 * (V_X12_power q_58 (x_58_6) (65519))) - (x_58_4 * (V_X12_power q_58 (x_58_6) (65519))) / 65521 * 65521))) q_58) else (if nI i_58 = nI i_25 then (SL_X12_recovered_58 g i_25 x_25_1 q_25 K n (i_58 + 1) (x_58_6) (x_58_4) q_58) else (if 0 ≤ (g 74 i_58 0) then (SL_X12_recovered_58 g i_25 x_25_1 q_25 K n (i_58 + 1) (((x_58_6 * (((65521 + nI i_58) - nI i_25) : Int32).toInt64) - (x_58_6 * (((65521 + nI i_58) - nI i_25) : Int32).toInt64) / 65521 * 65521)) (((x_58_4 * (nI i_58 : Int32).toInt64) - (x_58_4 * (nI i_58 : Int32).toInt64) / 65521 * 65521)) q_58) else (SL_X12_recovered_58 g i_25 x_25_1 q_25 K n (i_58 + 1) (x_58_6) (x_58_4) q_58))))
def VL_X12_recovered_25 (g : vS)  : Nat → Nat → Int64 → vS → Int32
  | 0, _, _, _ => 0
  | n + 1, i_25, x_25_1, q_25 => (if 8 < nI i_25 then ((x_25_1 - x_25_1 / 65521 * 65521) : Int64).toInt32 else (if 0 ≤ (g 74 i_25 0) then (VL_X12_recovered_58 g i_25 x_25_1 q_25 (VL_X12_recovered_25 g n) (9 + 1) 1 (1) (((g 74 i_25 0) : Int32).toInt64) q_25) else (VL_X12_recovered_25 g n (i_25 + 1) (x_25_1) q_25)))
def SL_X12_recovered_25 (g : vS)  : Nat → Nat → Int64 → vS → vS
  | 0, _, _, q9 => q9
  | n + 1, i_25, x_25_1, q_25 => (if 8 < nI i_25 then q_25 else (if 0 ≤ (g 74 i_25 0) then (SL_X12_recovered_58 g i_25 x_25_1 q_25 (SL_X12_recovered_25 g n) (9 + 1) 1 (1) (((g 74 i_25 0) : Int32).toInt64) q_25) else (SL_X12_recovered_25 g n (i_25 + 1) (x_25_1) q_25)))
def V_X12_recovered (g : vS)  : Int32 := (if (V_X12_collected g) ≤ 0 then 0 else (VL_X12_recovered_25 g (9 + 1) 1 (0) (S_X12_isWrong g (0))))
def S_X12_recovered (g : vS)  : vS := (if (V_X12_collected g) ≤ 0 then (S_X12_isWrong g (1)) else (SL_X12_recovered_25 g (9 + 1) 1 (0) (S_X12_isWrong g (0))))
theorem FL_X12_recovered_58 {g : vS}  {i_25 : Nat} {x_25_1 : Int64} {q_25 : vS} {K : Nat → Int64 → vS → vS} {c i j : Nat} (h1 : c ≠ 1) (hK : ∀ (b0 : Nat) (b1 : Int64) (b2 : vS), b2 c i j = g c i j → K b0 b1 b2 c i j = g c i j) : ∀ (n : Nat) (a0 : Nat) (a1 : Int64) (a2 : Int64) (a3 : vS), a3 c i j = g c i j → SL_X12_recovered_58 g i_25 x_25_1 q_25 K n a0 a1 a2 a3 c i j = g c i j := by
  intro n
  induction n with
  | zero => intro a0 a1 a2 a3 hq9; exact hq9
  | succ n ih =>
    intro a0 a1 a2 a3 hq9
    simp only [SL_X12_recovered_58]
    (repeat' split) <;> first | rfl | exact hq9 | (apply ih; first | exact hq9 | rfl | trivial | ((simp only [s3_k h1, F_X12_isWrong h1]) <;> first | done | exact hq9 | rfl)) | (apply hK; first | exact hq9 | rfl | ((try simp only [s3_k h1, F_X12_isWrong h1]) <;> first | exact hq9 | rfl)) | ((simp only [s3_k h1, F_X12_isWrong h1]) <;> first | done | exact hq9 | rfl)
theorem FL_X12_recovered_25 {g : vS}  {c i j : Nat} (h1 : c ≠ 1) : ∀ (n : Nat) (a0 : Nat) (a1 : Int64) (a2 : vS), a2 c i j = g c i j → SL_X12_recovered_25 g n a0 a1 a2 c i j = g c i j := by
  intro n
  induction n with
  | zero => intro a0 a1 a2 hq9; exact hq9
  | succ n ih =>
    intro a0 a1 a2 hq9
    simp only [SL_X12_recovered_25]
    (repeat' split) <;> first | rfl | exact hq9 | (apply ih; first | exact hq9 | rfl | trivial | ((simp only [s3_k h1, F_X12_isWrong h1]) <;> first | done | exact hq9 | rfl)) | (apply FL_X12_recovered_58 h1 (fun b0 b1 b2 h9 => ih b0 b1 b2 h9); first | exact hq9 | rfl | ((try simp only [s3_k h1, F_X12_isWrong h1]) <;> first | exact hq9 | rfl)) | ((simp only [s3_k h1, F_X12_isWrong h1]) <;> first | done | exact hq9 | rfl)
theorem F_X12_recovered {g : vS}  {c i j : Nat} (h1 : c ≠ 1) : S_X12_recovered g c i j = g c i j := by
  unfold S_X12_recovered
  (repeat' split) <;> first | rfl | (apply FL_X12_recovered_58 h1; first | rfl | trivial | ((simp only [s3_k h1, F_X12_isWrong h1]) <;> first | done | rfl)) | (apply FL_X12_recovered_25 h1; first | rfl | trivial | ((simp only [s3_k h1, F_X12_isWrong h1]) <;> first | done | rfl)) | ((simp only [s3_k h1, F_X12_isWrong h1]) <;> first | done | rfl)
set_option maxHeartbeats 4000000 in
set_option maxRecDepth 100000 in
theorem c_X12_recovered {G : vG} (hG : G.1.stackTraces = false) {A : vN → Nat} {g : vS} {r : vH}   : vCt G yX12_recovered cX12_recovered 9 (some .int) 1 [.ref (A (40, 0))] A (wm g r) (fun v A2 h2 => v = some (.int (V_X12_recovered g)) ∧ A2 = A ∧ h2 = wm (S_X12_recovered g) r) (vNoX) 0 0 := by
  refine v_of hG (by decide +kernel) (Nat.le_of_ble_eq_true rfl) (lv := [(0, .ref (A (40, 0)))]) rfl (fun X C hnx => ?_)
  have C : vC G X cX12_recovered 9 RX12 (some .int) "recovered" 1 0 0 := C
  refine v_aload_n (pc := 0) C dX12_recovered_0 0 rfl rfl ?_
  refine v_aload_n (pc := 1) C dX12_recovered_1 0 rfl rfl ?_
  refine v_callV (pc := 2) C (40, 0) ck_40 rfl (c_X12_collected hG (g := g)  ) 0 wd_1821 wd_68 wd_1818 wd_1820 wd_60 (by decide +kernel) (by decide) (by decide) rfl ([.ref (A (40, 0))]) rfl (Nat.le_of_ble_eq_true rfl) (by decide) dX12_recovered_2 (fun _ _ _ q => q.elim) (fun v9 A9 h9 hR9 => ?_)
  obtain ⟨rfl, hA9, rfl⟩ := hR9
  obtain rfl := hA9.symm
  refine v_st (k2 := 0) (n2 := 0) (st2 := [.int ((V_X12_collected g)), .ref (A (40, 0))]) rfl rfl rfl ?_
  refine v_if_le (pc := 5) (tgt := 12) C dX12_recovered_5 (by decide) (fun c_1 => ?_) (fun c_1 => ?_)
  · skip
    refine v_iconst (v := 1) (pc := 12) C dX12_recovered_12 rfl ?_
    refine v_callV (pc := 13) C (40, 0) ck_40 rfl (c_X12_isWrong hG (g := g) (1) ) 1 wd_1531 wd_68 wd_1528 wd_1530 wd_35 (by decide +kernel) (by decide) (by decide) rfl ([]) rfl (Nat.le_of_ble_eq_true rfl) (by decide) dX12_recovered_13 (fun _ _ _ q => q.elim) (fun v9 A9 h9 hR9 => ?_)
    obtain ⟨rfl, hA9, rfl⟩ := hR9
    obtain rfl := hA9.symm
    refine v_st (k2 := 0) (n2 := 0) (st2 := [.int ((V_X12_isWrong g (1)))]) rfl rfl rfl ?_
    refine v_if_eq (pc := 16) (tgt := 21) C dX12_recovered_16 (by decide) (fun c_2 => ?_) (fun c_2 => ?_)
    · skip
      exact absurd c_2 (fun q9 => ((show ¬ (1 : Int32) = 0 from by decide)) q9)
    · skip
      refine v_iconst (v := 0) (pc := 19) C dX12_recovered_19 rfl ?_
      exact v_iret (pc := 20) C (by decide) (by decide) dX12_recovered_20 ⟨(congrArg (fun q => some (Value.int q)) (by show _ = _; rw [V_X12_recovered, if_pos c_1])), rfl, (congrArg (fun q => wm q r) (by show _ = _; rw [S_X12_recovered, if_pos c_1]))⟩
  · skip
    refine v_iconst (v := 0) (pc := 8) C dX12_recovered_8 rfl ?_
    refine v_goto (tgt := 13) (pc := 9) C dX12_recovered_9 (by decide) ?_
    refine v_callV (pc := 13) C (40, 0) ck_40 rfl (c_X12_isWrong hG (g := g) (0) ) 1 wd_1531 wd_68 wd_1528 wd_1530 wd_35 (by decide +kernel) (by decide) (by decide) rfl ([]) rfl (Nat.le_of_ble_eq_true rfl) (by decide) dX12_recovered_13 (fun _ _ _ q => q.elim) (fun v9 A9 h9 hR9 => ?_)
    obtain ⟨rfl, hA9, rfl⟩ := hR9
    obtain rfl := hA9.symm
    refine v_st (k2 := 0) (n2 := 0) (st2 := [.int ((V_X12_isWrong g (0)))]) rfl rfl rfl ?_
    refine v_if_eq (pc := 16) (tgt := 21) C dX12_recovered_16 (by decide) (fun c_3 => ?_) (fun c_3 => ?_)
    · skip
      refine v_lconst (v := 0) (pc := 21) C dX12_recovered_21 rfl ?_
      refine v_lstore_n (lv2 := [(1, .long (0)), (0, .ref (A (40, 0)))]) (pc := 22) C dX12_recovered_22 rfl (by decide) rfl ?_
      refine v_iconst (v := 1) (pc := 23) C dX12_recovered_23 rfl ?_
      refine v_istore_n (lv2 := [(3, .int (1)), (1, .long (0)), (0, .ref (A (40, 0)))]) (pc := 24) C dX12_recovered_24 rfl (by decide) rfl ?_
      have L_25 : ∀ (n : Nat) (i_25 : Nat) (x_25_1 : Int64) (q_25 : vS), i_25 ≤ 9 → 9 + 1 ≤ i_25 + n → (∀ (c i j : Nat), c ≠ 1 → q_25 c i j = g c i j) → (V_X12_recovered g) = VL_X12_recovered_25 g n i_25 x_25_1 q_25 → (S_X12_recovered g) = SL_X12_recovered_25 g n i_25 x_25_1 q_25 → V G 9 X A (wm q_25 r) 0 0 (vM G X (fun v A2 h2 => v = some (.int (V_X12_recovered g)) ∧ A2 = A ∧ h2 = wm (S_X12_recovered g) r) (vNoX) 0 0) 25 [(3, .int (nI i_25)), (1, .long (x_25_1)), (0, .ref (A (40, 0)))] [] := by
        intro n
        induction n with
        | zero => intro i_25 x_25_1 q_25 hi_25 hc_25 hF_25 eV_25 eS_25; exact absurd hc_25 (by omega)
        | succ n ih =>
          intro i_25 x_25_1 q_25 hi_25 hc_25 hF_25 eV_25 eS_25
          have hq_25 : (nI i_25).toInt = (i_25 : Int) := nI_toInt (by omega)
          have hr_25 : (nI (i_25 + 1)).toInt = ((i_25 + 1 : Nat) : Int) := nI_toInt (by omega)
          refine v_iload_n (pc := 25) C dX12_recovered_25 0 rfl rfl ?_
          refine v_bipush (v := 8) (pc := 26) C dX12_recovered_26 (by decide) ?_
          refine v_icmp_gt (pc := 28) (tgt := 144) C dX12_recovered_28 (by decide) (fun c_4 => ?_) (fun c_4 => ?_)
          · skip
            refine v_lload_n (pc := 144) C dX12_recovered_144 1 rfl rfl ?_
            refine v_ldc2 (v := 65521) (pc := 145) C dX12_recovered_145 wd_1812 ?_
            refine v_lrem (pc := 148) C dX12_recovered_148 (by decide) ?_
            refine v_l2i (pc := 149) C dX12_recovered_149 rfl ?_
            exact v_iret (pc := 150) C (by decide) (by decide) dX12_recovered_150 ⟨(congrArg (fun q => some (Value.int q)) (by show _ = _; rw [eV_25, VL_X12_recovered_25, if_pos c_4])), rfl, (congrArg (fun q => wm q r) (by show _ = _; rw [eS_25, SL_X12_recovered_25, if_pos c_4]))⟩
          · skip
            refine v_aload_n (pc := 31) C dX12_recovered_31 2 rfl rfl ?_
            refine v_get (pc := 32) C (40, 0) (v := .ref (A (74, 0))) ck_40 rfl 37 (by decide) inX12 wd_1425 rfl rfl dX12_recovered_32 ?_
            refine v_iload_n (pc := 35) C dX12_recovered_35 0 rfl rfl ?_
            refine v_iald (pc := 36) C (74, 0) (v := (g 74 i_25 0)) ck_74 (by (try simp only [Int32.le_iff_toInt_le, Int32.lt_iff_toInt_lt, ← Int32.toInt_inj, vp_in_iff, Int32.reduceToInt] at c_1 c_3 c_4 hq_25 hr_25 ⊢) <;> omega) ((congrArg (fun k => q_25 74 k 0) (show (nI i_25 : Int32).toNatClampNeg = i_25 from (nI_clamp (by omega)))).trans (hF_25 _ _ _ (by decide))) dX12_recovered_36 ?_
            refine v_if_ge (pc := 37) (tgt := 43) C dX12_recovered_37 (by decide) (fun c_5 => ?_) (fun c_5 => ?_)
            · skip
              refine v_aload_n (pc := 43) C dX12_recovered_43 2 rfl rfl ?_
              refine v_get (pc := 44) C (40, 0) (v := .ref (A (74, 0))) ck_40 rfl 37 (by decide) inX12 wd_1425 rfl rfl dX12_recovered_44 ?_
              refine v_iload_n (pc := 47) C dX12_recovered_47 0 rfl rfl ?_
              refine v_iald (pc := 48) C (74, 0) (v := (g 74 i_25 0)) ck_74 (by (try simp only [Int32.le_iff_toInt_le, Int32.lt_iff_toInt_lt, ← Int32.toInt_inj, vp_in_iff, Int32.reduceToInt] at c_1 c_3 c_4 c_5 hq_25 hr_25 ⊢) <;> omega) ((congrArg (fun k => q_25 74 k 0) (show (nI i_25 : Int32).toNatClampNeg = i_25 from (nI_clamp (by omega)))).trans (hF_25 _ _ _ (by decide))) dX12_recovered_48 ?_
              refine v_i2l (pc := 49) C dX12_recovered_49 rfl ?_
              refine v_lstore (lv2 := [(4, .long (((g 74 i_25 0) : Int32).toInt64)), (3, .int (nI i_25)), (1, .long (x_25_1)), (0, .ref (A (40, 0)))]) (pc := 50) C dX12_recovered_50 (by decide) rfl ?_
              refine v_lconst (v := 1) (pc := 52) C dX12_recovered_52 rfl ?_
              refine v_lstore (lv2 := [(6, .long (1)), (4, .long (((g 74 i_25 0) : Int32).toInt64)), (3, .int (nI i_25)), (1, .long (x_25_1)), (0, .ref (A (40, 0)))]) (pc := 53) C dX12_recovered_53 (by decide) rfl ?_
              refine v_iconst (v := 1) (pc := 55) C dX12_recovered_55 rfl ?_
              refine v_istore (lv2 := [(8, .int (1)), (6, .long (1)), (4, .long (((g 74 i_25 0) : Int32).toInt64)), (3, .int (nI i_25)), (1, .long (x_25_1)), (0, .ref (A (40, 0)))]) (pc := 56) C dX12_recovered_56 (by decide) rfl ?_
              have L_58 : ∀ (n2 : Nat) (i_58 : Nat) (x_58_6 : Int64) (x_58_4 : Int64) (q_58 : vS), i_58 ≤ 9 → 9 + 1 ≤ i_58 + n2 → (∀ (c i j : Nat), c ≠ 1 → q_58 c i j = g c i j) → (V_X12_recovered g) = VL_X12_recovered_58 g i_25 x_25_1 q_25 (VL_X12_recovered_25 g n) n2 i_58 x_58_6 x_58_4 q_58 → (S_X12_recovered g) = SL_X12_recovered_58 g i_25 x_25_1 q_25 (SL_X12_recovered_25 g n) n2 i_58 x_58_6 x_58_4 q_58 → V G 9 X A (wm q_58 r) 0 0 (vM G X (fun v A2 h2 => v = some (.int (V_X12_recovered g)) ∧ A2 = A ∧ h2 = wm (S_X12_recovered g) r) (vNoX) 0 0) 58 [(8, .int (nI i_58)), (6, .long (x_58_6)), (4, .long (x_58_4)), (3, .int (nI i_25)), (1, .long (x_25_1)), (0, .ref (A (40, 0)))] [] := by
                intro n2
                induction n2 with
                | zero => intro i_58 x_58_6 x_58_4 q_58 hi_58 hc_58 hF_58 eV_58 eS_58; exact absurd hc_58 (by omega)
                | succ n2 ih2 =>
                  intro i_58 x_58_6 x_58_4 q_58 hi_58 hc_58 hF_58 eV_58 eS_58
                  have hq_58 : (nI i_58).toInt = (i_58 : Int) := nI_toInt (by omega)
                  have hr_58 : (nI (i_58 + 1)).toInt = ((i_58 + 1 : Nat) : Int) := nI_toInt (by omega)
                  refine v_iload (pc := 58) C dX12_recovered_58 0 rfl ?_
                  refine v_bipush (v := 8) (pc := 60) C dX12_recovered_60 (by decide) ?_
                  refine v_icmp_gt (pc := 62) (tgt := 120) C dX12_recovered_62 (by decide) (fun c_6 => ?_) (fun c_6 => ?_)
                  · skip
                    refine v_lload_n (pc := 120) C dX12_recovered_120 4 rfl rfl ?_
                    refine v_lload (pc := 121) C dX12_recovered_121 2 rfl ?_
                    refine v_lload (pc := 123) C dX12_recovered_123 1 rfl ?_
                    refine v_ldcw (v := 65519) (pc := 125) C dX12_recovered_125 wd_1826 ?_
                    refine v_callS (pc := 128) C (c_X12_power hG (g := q_58) (x_58_6) (65519) (by decide)) 2 wd_1829 wd_68 wd_1827 wd_1828 (by decide +kernel) (by decide) (by decide) rfl ([.long (x_58_4), .long (x_25_1)]) rfl (Nat.le_of_ble_eq_true rfl) (by decide) dX12_recovered_128 (fun _ _ _ q => q.elim) (fun v9 A9 h9 hR9 => ?_)
                    obtain ⟨rfl, hA9, rfl⟩ := hR9
                    obtain rfl := hA9.symm
                    refine v_st (k2 := 0) (n2 := 0) (st2 := [.long ((V_X12_power q_58 (x_58_6) (65519))), .long (x_58_4), .long (x_25_1)]) rfl rfl rfl ?_
                    refine v_lmul (pc := 131) C dX12_recovered_131 ?_
                    refine v_ldc2 (v := 65521) (pc := 132) C dX12_recovered_132 wd_1812 ?_
                    refine v_lrem (pc := 135) C dX12_recovered_135 (by decide) ?_
                    refine v_ladd (pc := 136) C dX12_recovered_136 ?_
                    refine v_lstore_n (lv2 := [(1, .long ((x_25_1 + ((x_58_4 * (V_X12_power q_58 (x_58_6) (65519))) - (x_58_4 * (V_X12_power q_58 (x_58_6) (65519))) / 65521 * 65521)))), (8, .int (nI i_58)), (6, .long (x_58_6)), (4, .long (x_58_4)), (3, .int (nI i_25)), (0, .ref (A (40, 0)))]) (pc := 137) C dX12_recovered_137 rfl (by decide) rfl ?_
                    refine v_iinc (v := nI (i_25 + 1)) (lv2 := [(3, .int (nI (i_25 + 1))), (1, .long ((x_25_1 + ((x_58_4 * (V_X12_power q_58 (x_58_6) (65519))) - (x_58_4 * (V_X12_power q_58 (x_58_6) (65519))) / 65521 * 65521)))), (8, .int (nI i_58)), (6, .long (x_58_6)), (4, .long (x_58_4)), (0, .ref (A (40, 0)))]) (pc := 138) C dX12_recovered_138 4 rfl (nI_1 _) (by decide) rfl ?_
                    refine v_goto (tgt := 25) (pc := 141) C dX12_recovered_141 (by decide) ?_
                    refine v_lv (lv2 := [(3, .int (nI (i_25 + 1))), (1, .long ((x_25_1 + ((x_58_4 * (V_X12_power q_58 (x_58_6) (65519))) - (x_58_4 * (V_X12_power q_58 (x_58_6) (65519))) / 65521 * 65521)))), (0, .ref (A (40, 0)))]) [0, 1, 5] rfl ?_
                    exact ih (i_25 + 1) ((x_25_1 + ((x_58_4 * (V_X12_power q_58 (x_58_6) (65519))) - (x_58_4 * (V_X12_power q_58 (x_58_6) (65519))) / 65521 * 65521))) q_58 (by (try simp only [Int32.le_iff_toInt_le, Int32.lt_iff_toInt_lt, ← Int32.toInt_inj, vp_in_iff, Int32.reduceToInt] at c_1 c_3 c_4 c_5 c_6 hq_25 hr_25 hq_58 hr_58 ⊢) <;> omega) (by omega) (fun c i j h1 => hF_58 c i j h1) (by rw [eV_58, VL_X12_recovered_58, if_pos c_6]) (by rw [eS_58, SL_X12_recovered_58, if_pos c_6])
                  · skip
                    refine v_iload (pc := 65) C dX12_recovered_65 0 rfl ?_
                    refine v_iload_n (pc := 67) C dX12_recovered_67 3 rfl rfl ?_
                    refine v_icmp_eq (pc := 68) (tgt := 114) C dX12_recovered_68 (by decide) (fun c_7 => ?_) (fun c_7 => ?_)
                    · skip
                      refine v_iinc (v := nI (i_58 + 1)) (lv2 := [(8, .int (nI (i_58 + 1))), (6, .long (x_58_6)), (4, .long (x_58_4)), (3, .int (nI i_25)), (1, .long (x_25_1)), (0, .ref (A (40, 0)))]) (pc := 114) C dX12_recovered_114 0 rfl (nI_1 _) (by decide) rfl ?_
                      refine v_goto (tgt := 58) (pc := 117) C dX12_recovered_117 (by decide) ?_
                      refine v_lv (lv2 := [(8, .int (nI (i_58 + 1))), (6, .long (x_58_6)), (4, .long (x_58_4)), (3, .int (nI i_25)), (1, .long (x_25_1)), (0, .ref (A (40, 0)))]) [0, 1, 2, 3, 4, 5] rfl ?_
                      exact ih2 (i_58 + 1) (x_58_6) (x_58_4) q_58 (by (try simp only [Int32.le_iff_toInt_le, Int32.lt_iff_toInt_lt, ← Int32.toInt_inj, vp_in_iff, Int32.reduceToInt] at c_1 c_3 c_4 c_5 c_6 c_7 hq_25 hr_25 hq_58 hr_58 ⊢) <;> omega) (by omega) (fun c i j h1 => hF_58 c i j h1) (by rw [eV_58, VL_X12_recovered_58, if_neg c_6, if_pos c_7]) (by rw [eS_58, SL_X12_recovered_58, if_neg c_6, if_pos c_7])
                    · skip
                      refine v_aload_n (pc := 71) C dX12_recovered_71 5 rfl rfl ?_
                      refine v_get (pc := 72) C (40, 0) (v := .ref (A (74, 0))) ck_40 rfl 37 (by decide) inX12 wd_1425 rfl rfl dX12_recovered_72 ?_
                      refine v_iload (pc := 75) C dX12_recovered_75 0 rfl ?_
                      refine v_iald (pc := 77) C (74, 0) (v := (g 74 i_58 0)) ck_74 (by (try simp only [Int32.le_iff_toInt_le, Int32.lt_iff_toInt_lt, ← Int32.toInt_inj, vp_in_iff, Int32.reduceToInt] at c_1 c_3 c_4 c_5 c_6 c_7 hq_25 hr_25 hq_58 hr_58 ⊢) <;> omega) ((congrArg (fun k => q_58 74 k 0) (show (nI i_58 : Int32).toNatClampNeg = i_58 from (nI_clamp (by omega)))).trans (hF_58 _ _ _ (by decide))) dX12_recovered_77 ?_
                      refine v_if_ge (pc := 78) (tgt := 84) C dX12_recovered_78 (by decide) (fun c_8 => ?_) (fun c_8 => ?_)
                      · skip
                        refine v_lload (pc := 84) C dX12_recovered_84 2 rfl ?_
                        refine v_iload (pc := 86) C dX12_recovered_86 0 rfl ?_
                        refine v_i2l (pc := 88) C dX12_recovered_88 rfl ?_
                        refine v_lmul (pc := 89) C dX12_recovered_89 ?_
                        refine v_ldc2 (v := 65521) (pc := 90) C dX12_recovered_90 wd_1812 ?_
                        refine v_lrem (pc := 93) C dX12_recovered_93 (by decide) ?_
                        refine v_lstore (lv2 := [(4, .long (((x_58_4 * (nI i_58 : Int32).toInt64) - (x_58_4 * (nI i_58 : Int32).toInt64) / 65521 * 65521))), (8, .int (nI i_58)), (6, .long (x_58_6)), (3, .int (nI i_25)), (1, .long (x_25_1)), (0, .ref (A (40, 0)))]) (pc := 94) C dX12_recovered_94 (by decide) rfl ?_
                        refine v_lload (pc := 96) C dX12_recovered_96 2 rfl ?_
                        refine v_ldcw (v := 65521) (pc := 98) C dX12_recovered_98 wd_1810 ?_
                        refine v_iload (pc := 101) C dX12_recovered_101 1 rfl ?_
                        refine v_iadd (pc := 103) C dX12_recovered_103 ?_
                        refine v_iload_n (pc := 104) C dX12_recovered_104 3 rfl rfl ?_
                        refine v_isub (pc := 105) C dX12_recovered_105 ?_
                        refine v_i2l (pc := 106) C dX12_recovered_106 rfl ?_
                        refine v_lmul (pc := 107) C dX12_recovered_107 ?_
                        refine v_ldc2 (v := 65521) (pc := 108) C dX12_recovered_108 wd_1812 ?_
                        refine v_lrem (pc := 111) C dX12_recovered_111 (by decide) ?_
                        refine v_lstore (lv2 := [(6, .long (((x_58_6 * (((65521 + nI i_58) - nI i_25) : Int32).toInt64) - (x_58_6 * (((65521 + nI i_58) - nI i_25) : Int32).toInt64) / 65521 * 65521))), (4, .long (((x_58_4 * (nI i_58 : Int32).toInt64) - (x_58_4 * (nI i_58 : Int32).toInt64) / 65521 * 65521))), (8, .int (nI i_58)), (3, .int (nI i_25)), (1, .long (x_25_1)), (0, .ref (A (40, 0)))]) (pc := 112) C dX12_recovered_112 (by decide) rfl ?_
                        refine v_iinc (v := nI (i_58 + 1)) (lv2 := [(8, .int (nI (i_58 + 1))), (6, .long (((x_58_6 * (((65521 + nI i_58) - nI i_25) : Int32).toInt64) - (x_58_6 * (((65521 + nI i_58) - nI i_25) : Int32).toInt64) / 65521 * 65521))), (4, .long (((x_58_4 * (nI i_58 : Int32).toInt64) - (x_58_4 * (nI i_58 : Int32).toInt64) / 65521 * 65521))), (3, .int (nI i_25)), (1, .long (x_25_1)), (0, .ref (A (40, 0)))]) (pc := 114) C dX12_recovered_114 2 rfl (nI_1 _) (by decide) rfl ?_
                        refine v_goto (tgt := 58) (pc := 117) C dX12_recovered_117 (by decide) ?_
                        refine v_lv (lv2 := [(8, .int (nI (i_58 + 1))), (6, .long (((x_58_6 * (((65521 + nI i_58) - nI i_25) : Int32).toInt64) - (x_58_6 * (((65521 + nI i_58) - nI i_25) : Int32).toInt64) / 65521 * 65521))), (4, .long (((x_58_4 * (nI i_58 : Int32).toInt64) - (x_58_4 * (nI i_58 : Int32).toInt64) / 65521 * 65521))), (3, .int (nI i_25)), (1, .long (x_25_1)), (0, .ref (A (40, 0)))]) [0, 1, 2, 3, 4, 5] rfl ?_
                        exact ih2 (i_58 + 1) (((x_58_6 * (((65521 + nI i_58) - nI i_25) : Int32).toInt64) - (x_58_6 * (((65521 + nI i_58) - nI i_25) : Int32).toInt64) / 65521 * 65521)) (((x_58_4 * (nI i_58 : Int32).toInt64) - (x_58_4 * (nI i_58 : Int32).toInt64) / 65521 * 65521)) q_58 (by (try simp only [Int32.le_iff_toInt_le, Int32.lt_iff_toInt_lt, ← Int32.toInt_inj, vp_in_iff, Int32.reduceToInt] at c_1 c_3 c_4 c_5 c_6 c_7 c_8 hq_25 hr_25 hq_58 hr_58 ⊢) <;> omega) (by omega) (fun c i j h1 => hF_58 c i j h1) (by rw [eV_58, VL_X12_recovered_58, if_neg c_6, if_neg c_7, if_pos c_8]) (by rw [eS_58, SL_X12_recovered_58, if_neg c_6, if_neg c_7, if_pos c_8])
                      · skip
                        refine v_goto (tgt := 114) (pc := 81) C dX12_recovered_81 (by decide) ?_
                        refine v_iinc (v := nI (i_58 + 1)) (lv2 := [(8, .int (nI (i_58 + 1))), (6, .long (x_58_6)), (4, .long (x_58_4)), (3, .int (nI i_25)), (1, .long (x_25_1)), (0, .ref (A (40, 0)))]) (pc := 114) C dX12_recovered_114 0 rfl (nI_1 _) (by decide) rfl ?_
                        refine v_goto (tgt := 58) (pc := 117) C dX12_recovered_117 (by decide) ?_
                        refine v_lv (lv2 := [(8, .int (nI (i_58 + 1))), (6, .long (x_58_6)), (4, .long (x_58_4)), (3, .int (nI i_25)), (1, .long (x_25_1)), (0, .ref (A (40, 0)))]) [0, 1, 2, 3, 4, 5] rfl ?_
                        exact ih2 (i_58 + 1) (x_58_6) (x_58_4) q_58 (by (try simp only [Int32.le_iff_toInt_le, Int32.lt_iff_toInt_lt, ← Int32.toInt_inj, vp_in_iff, Int32.reduceToInt] at c_1 c_3 c_4 c_5 c_6 c_7 c_8 hq_25 hr_25 hq_58 hr_58 ⊢) <;> omega) (by omega) (fun c i j h1 => hF_58 c i j h1) (by rw [eV_58, VL_X12_recovered_58, if_neg c_6, if_neg c_7, if_neg c_8]) (by rw [eS_58, SL_X12_recovered_58, if_neg c_6, if_neg c_7, if_neg c_8])
              exact L_58 (9 + 1) 1 (1) (((g 74 i_25 0) : Int32).toInt64) q_25 (by omega) (by omega) (fun c i j h1 => hF_25 c i j h1) (by rw [eV_25, VL_X12_recovered_25, if_neg c_4, if_pos c_5]) (by rw [eS_25, SL_X12_recovered_25, if_neg c_4, if_pos c_5])
            · skip
              refine v_goto (tgt := 138) (pc := 40) C dX12_recovered_40 (by decide) ?_
              refine v_iinc (v := nI (i_25 + 1)) (lv2 := [(3, .int (nI (i_25 + 1))), (1, .long (x_25_1)), (0, .ref (A (40, 0)))]) (pc := 138) C dX12_recovered_138 0 rfl (nI_1 _) (by decide) rfl ?_
              refine v_goto (tgt := 25) (pc := 141) C dX12_recovered_141 (by decide) ?_
              refine v_lv (lv2 := [(3, .int (nI (i_25 + 1))), (1, .long (x_25_1)), (0, .ref (A (40, 0)))]) [0, 1, 2] rfl ?_
              exact ih (i_25 + 1) (x_25_1) q_25 (by (try simp only [Int32.le_iff_toInt_le, Int32.lt_iff_toInt_lt, ← Int32.toInt_inj, vp_in_iff, Int32.reduceToInt] at c_1 c_3 c_4 c_5 hq_25 hr_25 ⊢) <;> omega) (by omega) (fun c i j h1 => hF_25 c i j h1) (by rw [eV_25, VL_X12_recovered_25, if_neg c_4, if_neg c_5]) (by rw [eS_25, SL_X12_recovered_25, if_neg c_4, if_neg c_5])
      exact L_25 (9 + 1) 1 (0) (S_X12_isWrong g (0)) (by omega) (by omega) (fun c i j h1 => F_X12_isWrong h1) (by rw [V_X12_recovered, if_neg c_1]) (by rw [S_X12_recovered, if_neg c_1])
    · skip
      exact absurd c_3 (fun q9 => q9 ((show (0 : Int32) = 0 from rfl)))
def VL_X12_isSound_43 (g : vS)  (i_9 : Nat) (x_9_1 : Int32) (q_9 : vS) (K : Nat → Int32 → vS → Int32) : Nat → Nat → Int32 → Int32 → vS → Int32
  | 0, _, _, _, _ => 0
  | n + 1, i_43, x_43_3, x_43_1, q_43 => (if x_43_3 = 0 then (K (i_9 + 1) (x_43_1) q_43) else (if 8 ≤ nI i_43 then (K (i_9 + 1) (x_43_1) q_43) else (if (g 63 i_9 i_43) = 0 then (VL_X12_isSound_43 g i_9 x_9_1 q_9 K n (i_43 + 1) (x_43_3) ((x_43_1 &&& 1)) q_43) else (if pUnseal ((g 65 i_9 i_43)) ((V_X12_keyOf q_43 (nI i_9) ((g 61 i_9 i_43)) (nI i_43))) = (g 67 i_9 i_43) then (VL_X12_isSound_43 g i_9 x_9_1 q_9 K n (i_43 + 1) (x_43_3) ((x_43_1 &&& 1)) q_43) else (VL_X12_isSound_43 g i_9 x_9_1 q_9 K n (i_43 + 1) (x_43_3) ((x_43_1 &&& 0)) q_43)))))
def SL_X12_isSound_43 (g : vS)  (i_9 : Nat) (x_9_1 : Int32) (q_9 : vS) (K : Nat → Int32 → vS → vS) : Nat → Nat → Int32 → Int32 → vS → vS
  | 0, _, _, _, q9 => q9
  | n + 1, i_43, x_43_3, x_43_1, q_43 => (if x_43_3 = 0 then (K (i_9 + 1) (x_43_1) q_43) else (if 8 ≤ nI i_43 then (K (i_9 + 1) (x_43_1) q_43) else (if (g 63 i_9 i_43) = 0 then (SL_X12_isSound_43 g i_9 x_9_1 q_9 K n (i_43 + 1) (x_43_3) ((x_43_1 &&& 1)) q_43) else (if pUnseal ((g 65 i_9 i_43)) ((V_X12_keyOf q_43 (nI i_9) ((g 61 i_9 i_43)) (nI i_43))) = (g 67 i_9 i_43) then (SL_X12_isSound_43 g i_9 x_9_1 q_9 K n (i_43 + 1) (x_43_3) ((x_43_1 &&& 1)) q_43) else (SL_X12_isSound_43 g i_9 x_9_1 q_9 K n (i_43 + 1) (x_43_3) ((x_43_1 &&& 0)) q_43)))))
def VL_X12_isSound_9 (g : vS)  : Nat → Nat → Int32 → vS → Int32
  | 0, _, _, _ => 0
  | n + 1, i_9, x_9_1, q_9 => (if (g 4 0 0) ≤ nI i_9 then x_9_1 else (if (g 68 i_9 0) = 0 then (if (V_X12_isSpoiled q_9 (nI i_9)) = 0 then (VL_X12_isSound_43 g i_9 x_9_1 q_9 (VL_X12_isSound_9 g n) (8 + 1) 0 (1) (x_9_1) q_9) else (VL_X12_isSound_43 g i_9 x_9_1 q_9 (VL_X12_isSound_9 g n) (8 + 1) 0 (0) (x_9_1) q_9)) else (VL_X12_isSound_43 g i_9 x_9_1 q_9 (VL_X12_isSound_9 g n) (8 + 1) 0 (0) (x_9_1) q_9)))
def SL_X12_isSound_9 (g : vS)  : Nat → Nat → Int32 → vS → vS
  | 0, _, _, q9 => q9
  | n + 1, i_9, x_9_1, q_9 => (if (g 4 0 0) ≤ nI i_9 then q_9 else (if (g 68 i_9 0) = 0 then (if (V_X12_isSpoiled q_9 (nI i_9)) = 0 then (SL_X12_isSound_43 g i_9 x_9_1 q_9 (SL_X12_isSound_9 g n) (8 + 1) 0 (1) (x_9_1) q_9) else (SL_X12_isSound_43 g i_9 x_9_1 q_9 (SL_X12_isSound_9 g n) (8 + 1) 0 (0) (x_9_1) q_9)) else (SL_X12_isSound_43 g i_9 x_9_1 q_9 (SL_X12_isSound_9 g n) (8 + 1) 0 (0) (x_9_1) q_9)))
def V_X12_isSound (g : vS)  : Int32 := (VL_X12_isSound_9 g (20 + 1) 0 (1) (s3 g 1 0 0 (0)))
def S_X12_isSound (g : vS)  : vS := (SL_X12_isSound_9 g (20 + 1) 0 (1) (s3 g 1 0 0 (0)))
theorem FL_X12_isSound_43 {g : vS}  {i_9 : Nat} {x_9_1 : Int32} {q_9 : vS} {K : Nat → Int32 → vS → vS} {c i j : Nat} (h1 : c ≠ 1) (hK : ∀ (b0 : Nat) (b1 : Int32) (b2 : vS), b2 c i j = g c i j → K b0 b1 b2 c i j = g c i j) : ∀ (n : Nat) (a0 : Nat) (a1 : Int32) (a2 : Int32) (a3 : vS), a3 c i j = g c i j → SL_X12_isSound_43 g i_9 x_9_1 q_9 K n a0 a1 a2 a3 c i j = g c i j := by
  intro n
  induction n with
  | zero => intro a0 a1 a2 a3 hq9; exact hq9
  | succ n ih =>
    intro a0 a1 a2 a3 hq9
    simp only [SL_X12_isSound_43]
    (repeat' split) <;> first | rfl | exact hq9 | (apply ih; first | exact hq9 | rfl | trivial | ((simp only [s3_k h1]) <;> first | done | exact hq9 | rfl)) | (apply hK; first | exact hq9 | rfl | ((try simp only [s3_k h1]) <;> first | exact hq9 | rfl)) | ((simp only [s3_k h1]) <;> first | done | exact hq9 | rfl)
theorem FL_X12_isSound_9 {g : vS}  {c i j : Nat} (h1 : c ≠ 1) : ∀ (n : Nat) (a0 : Nat) (a1 : Int32) (a2 : vS), a2 c i j = g c i j → SL_X12_isSound_9 g n a0 a1 a2 c i j = g c i j := by
  intro n
  induction n with
  | zero => intro a0 a1 a2 hq9; exact hq9
  | succ n ih =>
    intro a0 a1 a2 hq9
    simp only [SL_X12_isSound_9]
    (repeat' split) <;> first | rfl | exact hq9 | (apply ih; first | exact hq9 | rfl | trivial | ((simp only [s3_k h1]) <;> first | done | exact hq9 | rfl)) | (apply FL_X12_isSound_43 h1 (fun b0 b1 b2 h9 => ih b0 b1 b2 h9); first | exact hq9 | rfl | ((try simp only [s3_k h1]) <;> first | exact hq9 | rfl)) | ((simp only [s3_k h1]) <;> first | done | exact hq9 | rfl)
theorem F_X12_isSound {g : vS}  {c i j : Nat} (h1 : c ≠ 1) : S_X12_isSound g c i j = g c i j := by
  unfold S_X12_isSound
  (repeat' split) <;> first | rfl | (apply FL_X12_isSound_43 h1; first | rfl | trivial | ((simp only [s3_k h1]) <;> first | done | rfl)) | (apply FL_X12_isSound_9 h1; first | rfl | trivial | ((simp only [s3_k h1]) <;> first | done | rfl)) | ((simp only [s3_k h1]) <;> first | done | rfl)
set_option maxHeartbeats 4000000 in
set_option maxRecDepth 100000 in
theorem c_X12_isSound {G : vG} (hG : G.1.stackTraces = false) {A : vN → Nat} {g : vS} {r : vH}  (hu0 : 0 ≤ (g 2 0 0).toInt) (hu : (g 2 0 0).toInt ≤ 6) (hg0 : 0 ≤ (g 3 0 0).toInt) (hg : (g 3 0 0).toInt ≤ 5) (hf0 : 0 ≤ (g 4 0 0).toInt) (hf : (g 4 0 0).toInt ≤ 20) (h1 : vM1 g) (h2 : vM2 g) (h3 : vM3 g) : vCt G yX12_isSound cX12_isSound 5 (some .boolean) 4 [.ref (A (40, 0))] A (wm g r) (fun v A2 h2 => v = some (.int (V_X12_isSound g)) ∧ A2 = A ∧ h2 = wm (S_X12_isSound g) r) (vNoX) 0 0 := by
  refine v_of hG (by decide +kernel) (Nat.le_of_ble_eq_true rfl) (lv := [(0, .ref (A (40, 0)))]) rfl (fun X C hnx => ?_)
  have C : vC G X cX12_isSound 5 RX12 (some .boolean) "isSound" 4 0 0 := C
  refine v_aload_n (pc := 0) C dX12_isSound_0 0 rfl rfl ?_
  refine v_iconst (v := 0) (pc := 1) C dX12_isSound_1 rfl ?_
  refine v_put (pc := 2) C (40, 0) (v := .int (0)) ck_40 rfl 0 (by decide) inX12 tyX12 tyX12_ok nmX12 wd_1388 rfl (.inl (Value.int (0))) rfl (ty := tyX12 0) (by decide +kernel) rfl rfl (Nat.le_of_ble_eq_true rfl) dX12_isSound_2 ?_
  refine v_h (h2 := (wm (s3 g 1 0 0 (0)) r)) (u_40_0) ?_
  refine v_iconst (v := 1) (pc := 5) C dX12_isSound_5 rfl ?_
  refine v_istore_n (lv2 := [(1, .int (1)), (0, .ref (A (40, 0)))]) (pc := 6) C dX12_isSound_6 rfl (by decide) rfl ?_
  refine v_iconst (v := 0) (pc := 7) C dX12_isSound_7 rfl ?_
  refine v_istore_n (lv2 := [(2, .int (0)), (1, .int (1)), (0, .ref (A (40, 0)))]) (pc := 8) C dX12_isSound_8 rfl (by decide) rfl ?_
  have L_9 : ∀ (n : Nat) (i_9 : Nat) (x_9_1 : Int32) (q_9 : vS), i_9 ≤ 20 → 20 + 1 ≤ i_9 + n → (∀ (c i j : Nat), c ≠ 1 → q_9 c i j = g c i j) → x_9_1 = 0 ∨ x_9_1 = 1 → (V_X12_isSound g) = VL_X12_isSound_9 g n i_9 x_9_1 q_9 → (S_X12_isSound g) = SL_X12_isSound_9 g n i_9 x_9_1 q_9 → V G 5 X A (wm q_9 r) 0 0 (vM G X (fun v A2 h2 => v = some (.int (V_X12_isSound g)) ∧ A2 = A ∧ h2 = wm (S_X12_isSound g) r) (vNoX) 0 0) 9 [(2, .int (nI i_9)), (1, .int (x_9_1)), (0, .ref (A (40, 0)))] [] := by
    intro n
    induction n with
    | zero => intro i_9 x_9_1 q_9 hi_9 hc_9 hF_9 hz_9 eV_9 eS_9; exact absurd hc_9 (by omega)
    | succ n ih =>
      intro i_9 x_9_1 q_9 hi_9 hc_9 hF_9 hz_9 eV_9 eS_9
      have hq_9 : (nI i_9).toInt = (i_9 : Int) := nI_toInt (by omega)
      have hr_9 : (nI (i_9 + 1)).toInt = ((i_9 + 1 : Nat) : Int) := nI_toInt (by omega)
      refine v_iload_n (pc := 9) C dX12_isSound_9 0 rfl rfl ?_
      refine v_aload_n (pc := 10) C dX12_isSound_10 2 rfl rfl ?_
      refine v_get (pc := 11) C (40, 0) (v := .int ((g 4 0 0))) ck_40 rfl 24 (by decide) inX12 wd_1412 rfl (congrArg Value.int (hF_9 _ _ _ (by decide))) dX12_isSound_11 ?_
      refine v_icmp_ge (pc := 14) (tgt := 125) C dX12_isSound_14 (by decide) (fun c_1 => ?_) (fun c_1 => ?_)
      · skip
        refine v_iload_n (pc := 125) C dX12_isSound_125 1 rfl rfl ?_
        exact v_zret (pc := 126) C (nar_b hz_9) (by decide) (by decide) dX12_isSound_126 ⟨(congrArg (fun q => some (Value.int q)) (by show _ = _; rw [eV_9, VL_X12_isSound_9, if_pos c_1])), rfl, (congrArg (fun q => wm q r) (by show _ = _; rw [eS_9, SL_X12_isSound_9, if_pos c_1]))⟩
      · skip
        refine v_aload_n (pc := 17) C dX12_isSound_17 2 rfl rfl ?_
        refine v_get (pc := 18) C (40, 0) (v := .ref (A (68, 0))) ck_40 rfl 23 (by decide) inX12 wd_1411 rfl rfl dX12_isSound_18 ?_
        refine v_iload_n (pc := 21) C dX12_isSound_21 0 rfl rfl ?_
        refine v_zald (pc := 22) C (68, 0) (v := (g 68 i_9 0)) ck_68 (by (try simp only [Int32.le_iff_toInt_le, Int32.lt_iff_toInt_lt, ← Int32.toInt_inj, vp_in_iff, Int32.reduceToInt] at c_1 hq_9 hr_9 hu hg hf ⊢) <;> omega) ((congrArg (fun k => q_9 68 k 0) (show (nI i_9 : Int32).toNatClampNeg = i_9 from (nI_clamp (by omega)))).trans (hF_9 _ _ _ (by decide))) dX12_isSound_22 ?_
        refine v_if_ne (pc := 23) (tgt := 38) C dX12_isSound_23 (by decide) (fun c_2 => ?_) (fun c_2 => ?_)
        · skip
          refine v_iconst (v := 0) (pc := 38) C dX12_isSound_38 rfl ?_
          refine v_istore_n (lv2 := [(3, .int (0)), (2, .int (nI i_9)), (1, .int (x_9_1)), (0, .ref (A (40, 0)))]) (pc := 39) C dX12_isSound_39 rfl (by decide) rfl ?_
          refine v_iconst (v := 0) (pc := 40) C dX12_isSound_40 rfl ?_
          refine v_istore (lv2 := [(4, .int (0)), (3, .int (0)), (2, .int (nI i_9)), (1, .int (x_9_1)), (0, .ref (A (40, 0)))]) (pc := 41) C dX12_isSound_41 (by decide) rfl ?_
          have L_43 : ∀ (n2 : Nat) (i_43 : Nat) (x_43_3 : Int32) (x_43_1 : Int32) (q_43 : vS), i_43 ≤ 8 → 8 + 1 ≤ i_43 + n2 → (∀ (c i j : Nat), c ≠ 1 → q_43 c i j = g c i j) → x_43_1 = 0 ∨ x_43_1 = 1 → (V_X12_isSound g) = VL_X12_isSound_43 g i_9 x_9_1 q_9 (VL_X12_isSound_9 g n) n2 i_43 x_43_3 x_43_1 q_43 → (S_X12_isSound g) = SL_X12_isSound_43 g i_9 x_9_1 q_9 (SL_X12_isSound_9 g n) n2 i_43 x_43_3 x_43_1 q_43 → V G 5 X A (wm q_43 r) 0 0 (vM G X (fun v A2 h2 => v = some (.int (V_X12_isSound g)) ∧ A2 = A ∧ h2 = wm (S_X12_isSound g) r) (vNoX) 0 0) 43 [(4, .int (nI i_43)), (3, .int (x_43_3)), (2, .int (nI i_9)), (1, .int (x_43_1)), (0, .ref (A (40, 0)))] [] := by
            intro n2
            induction n2 with
            | zero => intro i_43 x_43_3 x_43_1 q_43 hi_43 hc_43 hF_43 hz_43 eV_43 eS_43; exact absurd hc_43 (by omega)
            | succ n2 ih2 =>
              intro i_43 x_43_3 x_43_1 q_43 hi_43 hc_43 hF_43 hz_43 eV_43 eS_43
              have hq_43 : (nI i_43).toInt = (i_43 : Int) := nI_toInt (by omega)
              have hr_43 : (nI (i_43 + 1)).toInt = ((i_43 + 1 : Nat) : Int) := nI_toInt (by omega)
              refine v_iload_n (pc := 43) C dX12_isSound_43 1 rfl rfl ?_
              refine v_if_eq (pc := 44) (tgt := 119) C dX12_isSound_44 (by decide) (fun c_3 => ?_) (fun c_3 => ?_)
              · skip
                refine v_iinc (v := nI (i_9 + 1)) (lv2 := [(2, .int (nI (i_9 + 1))), (4, .int (nI i_43)), (3, .int (x_43_3)), (1, .int (x_43_1)), (0, .ref (A (40, 0)))]) (pc := 119) C dX12_isSound_119 2 rfl (nI_1 _) (by decide) rfl ?_
                refine v_goto (tgt := 9) (pc := 122) C dX12_isSound_122 (by decide) ?_
                refine v_lv (lv2 := [(2, .int (nI (i_9 + 1))), (1, .int (x_43_1)), (0, .ref (A (40, 0)))]) [0, 3, 4] rfl ?_
                exact ih (i_9 + 1) (x_43_1) q_43 (by (try simp only [Int32.le_iff_toInt_le, Int32.lt_iff_toInt_lt, ← Int32.toInt_inj, vp_in_iff, Int32.reduceToInt] at c_1 c_2 c_3 hq_9 hr_9 hq_43 hr_43 hu hg hf ⊢) <;> omega) (by omega) (fun c i j h1 => hF_43 c i j h1) hz_43 (by rw [eV_43, VL_X12_isSound_43, if_pos c_3]) (by rw [eS_43, SL_X12_isSound_43, if_pos c_3])
              · skip
                refine v_iload (pc := 47) C dX12_isSound_47 0 rfl ?_
                refine v_bipush (v := 8) (pc := 49) C dX12_isSound_49 (by decide) ?_
                refine v_icmp_ge (pc := 51) (tgt := 119) C dX12_isSound_51 (by decide) (fun c_4 => ?_) (fun c_4 => ?_)
                · skip
                  refine v_iinc (v := nI (i_9 + 1)) (lv2 := [(2, .int (nI (i_9 + 1))), (4, .int (nI i_43)), (3, .int (x_43_3)), (1, .int (x_43_1)), (0, .ref (A (40, 0)))]) (pc := 119) C dX12_isSound_119 2 rfl (nI_1 _) (by decide) rfl ?_
                  refine v_goto (tgt := 9) (pc := 122) C dX12_isSound_122 (by decide) ?_
                  refine v_lv (lv2 := [(2, .int (nI (i_9 + 1))), (1, .int (x_43_1)), (0, .ref (A (40, 0)))]) [0, 3, 4] rfl ?_
                  exact ih (i_9 + 1) (x_43_1) q_43 (by (try simp only [Int32.le_iff_toInt_le, Int32.lt_iff_toInt_lt, ← Int32.toInt_inj, vp_in_iff, Int32.reduceToInt] at c_1 c_2 c_3 c_4 hq_9 hr_9 hq_43 hr_43 hu hg hf ⊢) <;> omega) (by omega) (fun c i j h1 => hF_43 c i j h1) hz_43 (by rw [eV_43, VL_X12_isSound_43, if_neg c_3, if_pos c_4]) (by rw [eS_43, SL_X12_isSound_43, if_neg c_3, if_pos c_4])
                · skip
                  refine v_iload_n (pc := 54) C dX12_isSound_54 3 rfl rfl ?_
                  refine v_aload_n (pc := 55) C dX12_isSound_55 4 rfl rfl ?_
                  refine v_get (pc := 56) C (40, 0) (v := .ref (A (62, 0))) ck_40 rfl 20 (by decide) inX12 wd_1408 rfl rfl dX12_isSound_56 ?_
                  refine v_iload_n (pc := 59) C dX12_isSound_59 2 rfl rfl ?_
                  refine v_aald (pc := 60) C (62, 0) ck_62 rfl rfl (by (try simp only [Int32.le_iff_toInt_le, Int32.lt_iff_toInt_lt, ← Int32.toInt_inj, vp_in_iff, Int32.reduceToInt] at c_1 c_2 c_3 c_4 hq_9 hr_9 hq_43 hr_43 hu hg hf ⊢) <;> omega) (63, i_9) (congrArg (fun k => some ((63, k) : vN)) (show (nI i_9 : Int32).toNatClampNeg = i_9 from (nI_clamp (by omega)))) dX12_isSound_60 ?_
                  refine v_iload (pc := 61) C dX12_isSound_61 0 rfl ?_
                  refine v_iald (pc := 63) C (63, i_9) (v := (g 63 i_9 i_43)) (ck_63 (g := q_43) (by (try simp only [Int32.le_iff_toInt_le, Int32.lt_iff_toInt_lt, ← Int32.toInt_inj, Int32.reduceToInt] at c_1 c_2 c_3 c_4 hq_9 hr_9 hq_43 hr_43 hu hg hf); omega)) (by (try simp only [Int32.le_iff_toInt_le, Int32.lt_iff_toInt_lt, ← Int32.toInt_inj, vp_in_iff, Int32.reduceToInt] at c_1 c_2 c_3 c_4 hq_9 hr_9 hq_43 hr_43 hu hg hf ⊢) <;> omega) ((congrArg (fun k => q_43 63 i_9 k) (show (nI i_43 : Int32).toNatClampNeg = i_43 from (nI_clamp (by omega)))).trans (hF_43 _ _ _ (by decide))) dX12_isSound_63 ?_
                  refine v_if_eq (pc := 64) (tgt := 106) C dX12_isSound_64 (by decide) (fun c_5 => ?_) (fun c_5 => ?_)
                  · skip
                    refine v_iconst (v := 1) (pc := 106) C dX12_isSound_106 rfl ?_
                    refine v_goto (tgt := 111) (pc := 107) C dX12_isSound_107 (by decide) ?_
                    refine v_iand (pc := 111) C dX12_isSound_111 ?_
                    refine v_istore_n (lv2 := [(1, .int ((x_43_1 &&& 1))), (4, .int (nI i_43)), (3, .int (x_43_3)), (2, .int (nI i_9)), (0, .ref (A (40, 0)))]) (pc := 112) C dX12_isSound_112 rfl (by decide) rfl ?_
                    refine v_iinc (v := nI (i_43 + 1)) (lv2 := [(4, .int (nI (i_43 + 1))), (1, .int ((x_43_1 &&& 1))), (3, .int (x_43_3)), (2, .int (nI i_9)), (0, .ref (A (40, 0)))]) (pc := 113) C dX12_isSound_113 1 rfl (nI_1 _) (by decide) rfl ?_
                    refine v_goto (tgt := 43) (pc := 116) C dX12_isSound_116 (by decide) ?_
                    refine v_lv (lv2 := [(4, .int (nI (i_43 + 1))), (3, .int (x_43_3)), (2, .int (nI i_9)), (1, .int ((x_43_1 &&& 1))), (0, .ref (A (40, 0)))]) [0, 2, 3, 1, 4] rfl ?_
                    exact ih2 (i_43 + 1) (x_43_3) ((x_43_1 &&& 1)) q_43 (by (try simp only [Int32.le_iff_toInt_le, Int32.lt_iff_toInt_lt, ← Int32.toInt_inj, vp_in_iff, Int32.reduceToInt] at c_1 c_2 c_3 c_4 c_5 hq_9 hr_9 hq_43 hr_43 hu hg hf ⊢) <;> omega) (by omega) (fun c i j h1 => hF_43 c i j h1) (and_bit1 hz_43) (by rw [eV_43, VL_X12_isSound_43, if_neg c_3, if_neg c_4, if_pos c_5]) (by rw [eS_43, SL_X12_isSound_43, if_neg c_3, if_neg c_4, if_pos c_5])
                  · skip
                    refine v_aload_n (pc := 67) C dX12_isSound_67 4 rfl rfl ?_
                    refine v_get (pc := 68) C (40, 0) (v := .ref (A (64, 0))) ck_40 rfl 21 (by decide) inX12 wd_1409 rfl rfl dX12_isSound_68 ?_
                    refine v_iload_n (pc := 71) C dX12_isSound_71 2 rfl rfl ?_
                    refine v_aald (pc := 72) C (64, 0) ck_64 rfl rfl (by (try simp only [Int32.le_iff_toInt_le, Int32.lt_iff_toInt_lt, ← Int32.toInt_inj, vp_in_iff, Int32.reduceToInt] at c_1 c_2 c_3 c_4 c_5 hq_9 hr_9 hq_43 hr_43 hu hg hf ⊢) <;> omega) (65, i_9) (congrArg (fun k => some ((65, k) : vN)) (show (nI i_9 : Int32).toNatClampNeg = i_9 from (nI_clamp (by omega)))) dX12_isSound_72 ?_
                    refine v_iload (pc := 73) C dX12_isSound_73 0 rfl ?_
                    refine v_iald (pc := 75) C (65, i_9) (v := (g 65 i_9 i_43)) (ck_65 (g := q_43) (by (try simp only [Int32.le_iff_toInt_le, Int32.lt_iff_toInt_lt, ← Int32.toInt_inj, Int32.reduceToInt] at c_1 c_2 c_3 c_4 c_5 hq_9 hr_9 hq_43 hr_43 hu hg hf); omega)) (by (try simp only [Int32.le_iff_toInt_le, Int32.lt_iff_toInt_lt, ← Int32.toInt_inj, vp_in_iff, Int32.reduceToInt] at c_1 c_2 c_3 c_4 c_5 hq_9 hr_9 hq_43 hr_43 hu hg hf ⊢) <;> omega) ((congrArg (fun k => q_43 65 i_9 k) (show (nI i_43 : Int32).toNatClampNeg = i_43 from (nI_clamp (by omega)))).trans (hF_43 _ _ _ (by decide))) dX12_isSound_75 ?_
                    refine v_iload_n (pc := 76) C dX12_isSound_76 2 rfl rfl ?_
                    refine v_aload_n (pc := 77) C dX12_isSound_77 4 rfl rfl ?_
                    refine v_get (pc := 78) C (40, 0) (v := .ref (A (60, 0))) ck_40 rfl 19 (by decide) inX12 wd_1407 rfl rfl dX12_isSound_78 ?_
                    refine v_iload_n (pc := 81) C dX12_isSound_81 2 rfl rfl ?_
                    refine v_aald (pc := 82) C (60, 0) ck_60 rfl rfl (by (try simp only [Int32.le_iff_toInt_le, Int32.lt_iff_toInt_lt, ← Int32.toInt_inj, vp_in_iff, Int32.reduceToInt] at c_1 c_2 c_3 c_4 c_5 hq_9 hr_9 hq_43 hr_43 hu hg hf ⊢) <;> omega) (61, i_9) (congrArg (fun k => some ((61, k) : vN)) (show (nI i_9 : Int32).toNatClampNeg = i_9 from (nI_clamp (by omega)))) dX12_isSound_82 ?_
                    refine v_iload (pc := 83) C dX12_isSound_83 0 rfl ?_
                    refine v_iald (pc := 85) C (61, i_9) (v := (g 61 i_9 i_43)) (ck_61 (g := q_43) (by (try simp only [Int32.le_iff_toInt_le, Int32.lt_iff_toInt_lt, ← Int32.toInt_inj, Int32.reduceToInt] at c_1 c_2 c_3 c_4 c_5 hq_9 hr_9 hq_43 hr_43 hu hg hf); omega)) (by (try simp only [Int32.le_iff_toInt_le, Int32.lt_iff_toInt_lt, ← Int32.toInt_inj, vp_in_iff, Int32.reduceToInt] at c_1 c_2 c_3 c_4 c_5 hq_9 hr_9 hq_43 hr_43 hu hg hf ⊢) <;> omega) ((congrArg (fun k => q_43 61 i_9 k) (show (nI i_43 : Int32).toNatClampNeg = i_43 from (nI_clamp (by omega)))).trans (hF_43 _ _ _ (by decide))) dX12_isSound_85 ?_
                    have b_6 := h3 i_9 i_43
                    have b_7 := h2 i_9
                    refine v_iload (pc := 86) C dX12_isSound_86 0 rfl ?_
                    refine v_callS (pc := 88) C (c_X12_keyOf hG (g := q_43) (nI i_9) ((g 61 i_9 i_43)) (nI i_43) ) 3 wd_1585 wd_68 wd_1583 wd_1584 (by decide +kernel) (by decide) (by decide) rfl ([.int ((g 65 i_9 i_43)), .int (x_43_1)]) rfl (Nat.le_of_ble_eq_true rfl) (by decide) dX12_isSound_88 (fun _ _ _ q => q.elim) (fun v9 A9 h9 hR9 => ?_)
                    obtain ⟨rfl, hA9, rfl⟩ := hR9
                    obtain rfl := hA9.symm
                    refine v_st (k2 := 0) (n2 := 0) (st2 := [.int ((V_X12_keyOf q_43 (nI i_9) ((g 61 i_9 i_43)) (nI i_43))), .int ((g 65 i_9 i_43)), .int (x_43_1)]) rfl rfl rfl ?_
                    refine v_callS (pc := 91) C (c_X12_opens hG ((g 65 i_9 i_43)) ((V_X12_keyOf q_43 (nI i_9) ((g 61 i_9 i_43)) (nI i_43)))) 2 wd_1647 wd_68 wd_1645 wd_1646 (by decide +kernel) (by decide) (by decide) rfl ([.int (x_43_1)]) rfl (Nat.le_of_ble_eq_true rfl) (by decide) dX12_isSound_91 (fun _ _ _ q => q.elim) (fun v9 A9 h9 hR9 => ?_)
                    obtain ⟨rfl, hA9, rfl⟩ := hR9
                    obtain rfl := hA9.symm
                    refine v_st (k2 := 0) (n2 := 0) (st2 := [.int (pUnseal ((g 65 i_9 i_43)) ((V_X12_keyOf q_43 (nI i_9) ((g 61 i_9 i_43)) (nI i_43)))), .int (x_43_1)]) rfl rfl rfl ?_
                    refine v_aload_n (pc := 94) C dX12_isSound_94 4 rfl rfl ?_
                    refine v_get (pc := 95) C (40, 0) (v := .ref (A (66, 0))) ck_40 rfl 22 (by decide) inX12 wd_1410 rfl rfl dX12_isSound_95 ?_
                    refine v_iload_n (pc := 98) C dX12_isSound_98 2 rfl rfl ?_
                    refine v_aald (pc := 99) C (66, 0) ck_66 rfl rfl (by (try simp only [Int32.le_iff_toInt_le, Int32.lt_iff_toInt_lt, ← Int32.toInt_inj, vp_in_iff, Int32.reduceToInt] at c_1 c_2 c_3 c_4 c_5 hq_9 hr_9 hq_43 hr_43 b_6 b_7 hu hg hf ⊢) <;> omega) (67, i_9) (congrArg (fun k => some ((67, k) : vN)) (show (nI i_9 : Int32).toNatClampNeg = i_9 from (nI_clamp (by omega)))) dX12_isSound_99 ?_
                    refine v_iload (pc := 100) C dX12_isSound_100 0 rfl ?_
                    refine v_iald (pc := 102) C (67, i_9) (v := (g 67 i_9 i_43)) (ck_67 (g := q_43) (by (try simp only [Int32.le_iff_toInt_le, Int32.lt_iff_toInt_lt, ← Int32.toInt_inj, Int32.reduceToInt] at c_1 c_2 c_3 c_4 c_5 hq_9 hr_9 hq_43 hr_43 b_6 b_7 hu hg hf); omega)) (by (try simp only [Int32.le_iff_toInt_le, Int32.lt_iff_toInt_lt, ← Int32.toInt_inj, vp_in_iff, Int32.reduceToInt] at c_1 c_2 c_3 c_4 c_5 hq_9 hr_9 hq_43 hr_43 b_6 b_7 hu hg hf ⊢) <;> omega) ((congrArg (fun k => q_43 67 i_9 k) (show (nI i_43 : Int32).toNatClampNeg = i_43 from (nI_clamp (by omega)))).trans (hF_43 _ _ _ (by decide))) dX12_isSound_102 ?_
                    refine v_icmp_ne (pc := 103) (tgt := 110) C dX12_isSound_103 (by decide) (fun c_8 => ?_) (fun c_8 => ?_)
                    · skip
                      refine v_iconst (v := 0) (pc := 110) C dX12_isSound_110 rfl ?_
                      refine v_iand (pc := 111) C dX12_isSound_111 ?_
                      refine v_istore_n (lv2 := [(1, .int ((x_43_1 &&& 0))), (4, .int (nI i_43)), (3, .int (x_43_3)), (2, .int (nI i_9)), (0, .ref (A (40, 0)))]) (pc := 112) C dX12_isSound_112 rfl (by decide) rfl ?_
                      refine v_iinc (v := nI (i_43 + 1)) (lv2 := [(4, .int (nI (i_43 + 1))), (1, .int ((x_43_1 &&& 0))), (3, .int (x_43_3)), (2, .int (nI i_9)), (0, .ref (A (40, 0)))]) (pc := 113) C dX12_isSound_113 1 rfl (nI_1 _) (by decide) rfl ?_
                      refine v_goto (tgt := 43) (pc := 116) C dX12_isSound_116 (by decide) ?_
                      refine v_lv (lv2 := [(4, .int (nI (i_43 + 1))), (3, .int (x_43_3)), (2, .int (nI i_9)), (1, .int ((x_43_1 &&& 0))), (0, .ref (A (40, 0)))]) [0, 2, 3, 1, 4] rfl ?_
                      exact ih2 (i_43 + 1) (x_43_3) ((x_43_1 &&& 0)) q_43 (by (try simp only [Int32.le_iff_toInt_le, Int32.lt_iff_toInt_lt, ← Int32.toInt_inj, vp_in_iff, Int32.reduceToInt] at c_1 c_2 c_3 c_4 c_5 c_8 hq_9 hr_9 hq_43 hr_43 b_6 b_7 hu hg hf ⊢) <;> omega) (by omega) (fun c i j h1 => hF_43 c i j h1) (and_bit0 hz_43) (by rw [eV_43, VL_X12_isSound_43, if_neg c_3, if_neg c_4, if_neg c_5, if_neg c_8]) (by rw [eS_43, SL_X12_isSound_43, if_neg c_3, if_neg c_4, if_neg c_5, if_neg c_8])
                    · skip
                      refine v_iconst (v := 1) (pc := 106) C dX12_isSound_106 rfl ?_
                      refine v_goto (tgt := 111) (pc := 107) C dX12_isSound_107 (by decide) ?_
                      refine v_iand (pc := 111) C dX12_isSound_111 ?_
                      refine v_istore_n (lv2 := [(1, .int ((x_43_1 &&& 1))), (4, .int (nI i_43)), (3, .int (x_43_3)), (2, .int (nI i_9)), (0, .ref (A (40, 0)))]) (pc := 112) C dX12_isSound_112 rfl (by decide) rfl ?_
                      refine v_iinc (v := nI (i_43 + 1)) (lv2 := [(4, .int (nI (i_43 + 1))), (1, .int ((x_43_1 &&& 1))), (3, .int (x_43_3)), (2, .int (nI i_9)), (0, .ref (A (40, 0)))]) (pc := 113) C dX12_isSound_113 1 rfl (nI_1 _) (by decide) rfl ?_
                      refine v_goto (tgt := 43) (pc := 116) C dX12_isSound_116 (by decide) ?_
                      refine v_lv (lv2 := [(4, .int (nI (i_43 + 1))), (3, .int (x_43_3)), (2, .int (nI i_9)), (1, .int ((x_43_1 &&& 1))), (0, .ref (A (40, 0)))]) [0, 2, 3, 1, 4] rfl ?_
                      exact ih2 (i_43 + 1) (x_43_3) ((x_43_1 &&& 1)) q_43 (by (try simp only [Int32.le_iff_toInt_le, Int32.lt_iff_toInt_lt, ← Int32.toInt_inj, vp_in_iff, Int32.reduceToInt] at c_1 c_2 c_3 c_4 c_5 c_8 hq_9 hr_9 hq_43 hr_43 b_6 b_7 hu hg hf ⊢) <;> omega) (by omega) (fun c i j h1 => hF_43 c i j h1) (and_bit1 hz_43) (by rw [eV_43, VL_X12_isSound_43, if_neg c_3, if_neg c_4, if_neg c_5, if_pos c_8]) (by rw [eS_43, SL_X12_isSound_43, if_neg c_3, if_neg c_4, if_neg c_5, if_pos c_8])
          exact L_43 (8 + 1) 0 (0) (x_9_1) q_9 (by omega) (by omega) (fun c i j h1 => hF_9 c i j h1) hz_9 (by rw [eV_9, VL_X12_isSound_9, if_neg c_1, if_neg c_2]) (by rw [eS_9, SL_X12_isSound_9, if_neg c_1, if_neg c_2])
        · skip
          refine v_aload_n (pc := 26) C dX12_isSound_26 2 rfl rfl ?_
          refine v_iload_n (pc := 27) C dX12_isSound_27 0 rfl rfl ?_
          refine v_callV (pc := 28) C (40, 0) ck_40 rfl (c_X12_isSpoiled hG (g := q_9) (nI i_9) (by rw [show q_9 2 0 0 = g 2 0 0 from hF_9 _ _ _ (by decide)]; exact hu0) (by rw [show q_9 2 0 0 = g 2 0 0 from hF_9 _ _ _ (by decide)]; exact hu) (by rw [show q_9 3 0 0 = g 3 0 0 from hF_9 _ _ _ (by decide)]; exact hg0) (by rw [show q_9 3 0 0 = g 3 0 0 from hF_9 _ _ _ (by decide)]; exact hg) (by rw [show q_9 4 0 0 = g 4 0 0 from hF_9 _ _ _ (by decide)]; exact hf0) (by rw [show q_9 4 0 0 = g 4 0 0 from hF_9 _ _ _ (by decide)]; exact hf) (by (try simp only [Int32.le_iff_toInt_le, Int32.lt_iff_toInt_lt, ← Int32.toInt_inj, Int32.reduceToInt] at c_1 c_2 hq_9 hr_9 hu hg hf ⊢); omega) (by (try simp only [Int32.le_iff_toInt_le, Int32.lt_iff_toInt_lt, ← Int32.toInt_inj, Int32.reduceToInt] at c_1 c_2 hq_9 hr_9 hu hg hf ⊢); omega)) 1 wd_1570 wd_68 wd_1567 wd_1569 wd_40 (by decide +kernel) (by decide) (by decide) rfl ([]) rfl (Nat.le_of_ble_eq_true rfl) (by decide) dX12_isSound_28 (fun _ _ _ q => q.elim) (fun v9 A9 h9 hR9 => ?_)
          obtain ⟨rfl, hA9, rfl⟩ := hR9
          obtain rfl := hA9.symm
          refine v_st (k2 := 0) (n2 := 0) (st2 := [.int ((V_X12_isSpoiled q_9 (nI i_9)))]) rfl rfl rfl ?_
          refine v_if_ne (pc := 31) (tgt := 38) C dX12_isSound_31 (by decide) (fun c_9 => ?_) (fun c_9 => ?_)
          · skip
            refine v_iconst (v := 0) (pc := 38) C dX12_isSound_38 rfl ?_
            refine v_istore_n (lv2 := [(3, .int (0)), (2, .int (nI i_9)), (1, .int (x_9_1)), (0, .ref (A (40, 0)))]) (pc := 39) C dX12_isSound_39 rfl (by decide) rfl ?_
            refine v_iconst (v := 0) (pc := 40) C dX12_isSound_40 rfl ?_
            refine v_istore (lv2 := [(4, .int (0)), (3, .int (0)), (2, .int (nI i_9)), (1, .int (x_9_1)), (0, .ref (A (40, 0)))]) (pc := 41) C dX12_isSound_41 (by decide) rfl ?_
            have L_43 : ∀ (n2 : Nat) (i_43 : Nat) (x_43_3 : Int32) (x_43_1 : Int32) (q_43 : vS), i_43 ≤ 8 → 8 + 1 ≤ i_43 + n2 → (∀ (c i j : Nat), c ≠ 1 → q_43 c i j = g c i j) → x_43_1 = 0 ∨ x_43_1 = 1 → (V_X12_isSound g) = VL_X12_isSound_43 g i_9 x_9_1 q_9 (VL_X12_isSound_9 g n) n2 i_43 x_43_3 x_43_1 q_43 → (S_X12_isSound g) = SL_X12_isSound_43 g i_9 x_9_1 q_9 (SL_X12_isSound_9 g n) n2 i_43 x_43_3 x_43_1 q_43 → V G 5 X A (wm q_43 r) 0 0 (vM G X (fun v A2 h2 => v = some (.int (V_X12_isSound g)) ∧ A2 = A ∧ h2 = wm (S_X12_isSound g) r) (vNoX) 0 0) 43 [(4, .int (nI i_43)), (3, .int (x_43_3)), (2, .int (nI i_9)), (1, .int (x_43_1)), (0, .ref (A (40, 0)))] [] := by
              intro n2
              induction n2 with
              | zero => intro i_43 x_43_3 x_43_1 q_43 hi_43 hc_43 hF_43 hz_43 eV_43 eS_43; exact absurd hc_43 (by omega)
              | succ n2 ih2 =>
                intro i_43 x_43_3 x_43_1 q_43 hi_43 hc_43 hF_43 hz_43 eV_43 eS_43
                have hq_43 : (nI i_43).toInt = (i_43 : Int) := nI_toInt (by omega)
                have hr_43 : (nI (i_43 + 1)).toInt = ((i_43 + 1 : Nat) : Int) := nI_toInt (by omega)
                refine v_iload_n (pc := 43) C dX12_isSound_43 1 rfl rfl ?_
                refine v_if_eq (pc := 44) (tgt := 119) C dX12_isSound_44 (by decide) (fun c_10 => ?_) (fun c_10 => ?_)
                · skip
                  refine v_iinc (v := nI (i_9 + 1)) (lv2 := [(2, .int (nI (i_9 + 1))), (4, .int (nI i_43)), (3, .int (x_43_3)), (1, .int (x_43_1)), (0, .ref (A (40, 0)))]) (pc := 119) C dX12_isSound_119 2 rfl (nI_1 _) (by decide) rfl ?_
                  refine v_goto (tgt := 9) (pc := 122) C dX12_isSound_122 (by decide) ?_
                  refine v_lv (lv2 := [(2, .int (nI (i_9 + 1))), (1, .int (x_43_1)), (0, .ref (A (40, 0)))]) [0, 3, 4] rfl ?_
                  exact ih (i_9 + 1) (x_43_1) q_43 (by (try simp only [Int32.le_iff_toInt_le, Int32.lt_iff_toInt_lt, ← Int32.toInt_inj, vp_in_iff, Int32.reduceToInt] at c_1 c_2 c_9 c_10 hq_9 hr_9 hq_43 hr_43 hu hg hf ⊢) <;> omega) (by omega) (fun c i j h1 => hF_43 c i j h1) hz_43 (by rw [eV_43, VL_X12_isSound_43, if_pos c_10]) (by rw [eS_43, SL_X12_isSound_43, if_pos c_10])
                · skip
                  refine v_iload (pc := 47) C dX12_isSound_47 0 rfl ?_
                  refine v_bipush (v := 8) (pc := 49) C dX12_isSound_49 (by decide) ?_
                  refine v_icmp_ge (pc := 51) (tgt := 119) C dX12_isSound_51 (by decide) (fun c_11 => ?_) (fun c_11 => ?_)
                  · skip
                    refine v_iinc (v := nI (i_9 + 1)) (lv2 := [(2, .int (nI (i_9 + 1))), (4, .int (nI i_43)), (3, .int (x_43_3)), (1, .int (x_43_1)), (0, .ref (A (40, 0)))]) (pc := 119) C dX12_isSound_119 2 rfl (nI_1 _) (by decide) rfl ?_
                    refine v_goto (tgt := 9) (pc := 122) C dX12_isSound_122 (by decide) ?_
                    refine v_lv (lv2 := [(2, .int (nI (i_9 + 1))), (1, .int (x_43_1)), (0, .ref (A (40, 0)))]) [0, 3, 4] rfl ?_
                    exact ih (i_9 + 1) (x_43_1) q_43 (by (try simp only [Int32.le_iff_toInt_le, Int32.lt_iff_toInt_lt, ← Int32.toInt_inj, vp_in_iff, Int32.reduceToInt] at c_1 c_2 c_9 c_10 c_11 hq_9 hr_9 hq_43 hr_43 hu hg hf ⊢) <;> omega) (by omega) (fun c i j h1 => hF_43 c i j h1) hz_43 (by rw [eV_43, VL_X12_isSound_43, if_neg c_10, if_pos c_11]) (by rw [eS_43, SL_X12_isSound_43, if_neg c_10, if_pos c_11])
                  · skip
                    refine v_iload_n (pc := 54) C dX12_isSound_54 3 rfl rfl ?_
                    refine v_aload_n (pc := 55) C dX12_isSound_55 4 rfl rfl ?_
                    refine v_get (pc := 56) C (40, 0) (v := .ref (A (62, 0))) ck_40 rfl 20 (by decide) inX12 wd_1408 rfl rfl dX12_isSound_56 ?_
                    refine v_iload_n (pc := 59) C dX12_isSound_59 2 rfl rfl ?_
                    refine v_aald (pc := 60) C (62, 0) ck_62 rfl rfl (by (try simp only [Int32.le_iff_toInt_le, Int32.lt_iff_toInt_lt, ← Int32.toInt_inj, vp_in_iff, Int32.reduceToInt] at c_1 c_2 c_9 c_10 c_11 hq_9 hr_9 hq_43 hr_43 hu hg hf ⊢) <;> omega) (63, i_9) (congrArg (fun k => some ((63, k) : vN)) (show (nI i_9 : Int32).toNatClampNeg = i_9 from (nI_clamp (by omega)))) dX12_isSound_60 ?_
                    refine v_iload (pc := 61) C dX12_isSound_61 0 rfl ?_
                    refine v_iald (pc := 63) C (63, i_9) (v := (g 63 i_9 i_43)) (ck_63 (g := q_43) (by (try simp only [Int32.le_iff_toInt_le, Int32.lt_iff_toInt_lt, ← Int32.toInt_inj, Int32.reduceToInt] at c_1 c_2 c_9 c_10 c_11 hq_9 hr_9 hq_43 hr_43 hu hg hf); omega)) (by (try simp only [Int32.le_iff_toInt_le, Int32.lt_iff_toInt_lt, ← Int32.toInt_inj, vp_in_iff, Int32.reduceToInt] at c_1 c_2 c_9 c_10 c_11 hq_9 hr_9 hq_43 hr_43 hu hg hf ⊢) <;> omega) ((congrArg (fun k => q_43 63 i_9 k) (show (nI i_43 : Int32).toNatClampNeg = i_43 from (nI_clamp (by omega)))).trans (hF_43 _ _ _ (by decide))) dX12_isSound_63 ?_
                    refine v_if_eq (pc := 64) (tgt := 106) C dX12_isSound_64 (by decide) (fun c_12 => ?_) (fun c_12 => ?_)
                    · skip
                      refine v_iconst (v := 1) (pc := 106) C dX12_isSound_106 rfl ?_
                      refine v_goto (tgt := 111) (pc := 107) C dX12_isSound_107 (by decide) ?_
                      refine v_iand (pc := 111) C dX12_isSound_111 ?_
                      refine v_istore_n (lv2 := [(1, .int ((x_43_1 &&& 1))), (4, .int (nI i_43)), (3, .int (x_43_3)), (2, .int (nI i_9)), (0, .ref (A (40, 0)))]) (pc := 112) C dX12_isSound_112 rfl (by decide) rfl ?_
                      refine v_iinc (v := nI (i_43 + 1)) (lv2 := [(4, .int (nI (i_43 + 1))), (1, .int ((x_43_1 &&& 1))), (3, .int (x_43_3)), (2, .int (nI i_9)), (0, .ref (A (40, 0)))]) (pc := 113) C dX12_isSound_113 1 rfl (nI_1 _) (by decide) rfl ?_
                      refine v_goto (tgt := 43) (pc := 116) C dX12_isSound_116 (by decide) ?_
                      refine v_lv (lv2 := [(4, .int (nI (i_43 + 1))), (3, .int (x_43_3)), (2, .int (nI i_9)), (1, .int ((x_43_1 &&& 1))), (0, .ref (A (40, 0)))]) [0, 2, 3, 1, 4] rfl ?_
                      exact ih2 (i_43 + 1) (x_43_3) ((x_43_1 &&& 1)) q_43 (by (try simp only [Int32.le_iff_toInt_le, Int32.lt_iff_toInt_lt, ← Int32.toInt_inj, vp_in_iff, Int32.reduceToInt] at c_1 c_2 c_9 c_10 c_11 c_12 hq_9 hr_9 hq_43 hr_43 hu hg hf ⊢) <;> omega) (by omega) (fun c i j h1 => hF_43 c i j h1) (and_bit1 hz_43) (by rw [eV_43, VL_X12_isSound_43, if_neg c_10, if_neg c_11, if_pos c_12]) (by rw [eS_43, SL_X12_isSound_43, if_neg c_10, if_neg c_11, if_pos c_12])
                    · skip
                      refine v_aload_n (pc := 67) C dX12_isSound_67 4 rfl rfl ?_
                      refine v_get (pc := 68) C (40, 0) (v := .ref (A (64, 0))) ck_40 rfl 21 (by decide) inX12 wd_1409 rfl rfl dX12_isSound_68 ?_
                      refine v_iload_n (pc := 71) C dX12_isSound_71 2 rfl rfl ?_
                      refine v_aald (pc := 72) C (64, 0) ck_64 rfl rfl (by (try simp only [Int32.le_iff_toInt_le, Int32.lt_iff_toInt_lt, ← Int32.toInt_inj, vp_in_iff, Int32.reduceToInt] at c_1 c_2 c_9 c_10 c_11 c_12 hq_9 hr_9 hq_43 hr_43 hu hg hf ⊢) <;> omega) (65, i_9) (congrArg (fun k => some ((65, k) : vN)) (show (nI i_9 : Int32).toNatClampNeg = i_9 from (nI_clamp (by omega)))) dX12_isSound_72 ?_
                      refine v_iload (pc := 73) C dX12_isSound_73 0 rfl ?_
                      refine v_iald (pc := 75) C (65, i_9) (v := (g 65 i_9 i_43)) (ck_65 (g := q_43) (by (try simp only [Int32.le_iff_toInt_le, Int32.lt_iff_toInt_lt, ← Int32.toInt_inj, Int32.reduceToInt] at c_1 c_2 c_9 c_10 c_11 c_12 hq_9 hr_9 hq_43 hr_43 hu hg hf); omega)) (by (try simp only [Int32.le_iff_toInt_le, Int32.lt_iff_toInt_lt, ← Int32.toInt_inj, vp_in_iff, Int32.reduceToInt] at c_1 c_2 c_9 c_10 c_11 c_12 hq_9 hr_9 hq_43 hr_43 hu hg hf ⊢) <;> omega) ((congrArg (fun k => q_43 65 i_9 k) (show (nI i_43 : Int32).toNatClampNeg = i_43 from (nI_clamp (by omega)))).trans (hF_43 _ _ _ (by decide))) dX12_isSound_75 ?_
                      refine v_iload_n (pc := 76) C dX12_isSound_76 2 rfl rfl ?_
                      refine v_aload_n (pc := 77) C dX12_isSound_77 4 rfl rfl ?_
                      refine v_get (pc := 78) C (40, 0) (v := .ref (A (60, 0))) ck_40 rfl 19 (by decide) inX12 wd_1407 rfl rfl dX12_isSound_78 ?_
                      refine v_iload_n (pc := 81) C dX12_isSound_81 2 rfl rfl ?_
                      refine v_aald (pc := 82) C (60, 0) ck_60 rfl rfl (by (try simp only [Int32.le_iff_toInt_le, Int32.lt_iff_toInt_lt, ← Int32.toInt_inj, vp_in_iff, Int32.reduceToInt] at c_1 c_2 c_9 c_10 c_11 c_12 hq_9 hr_9 hq_43 hr_43 hu hg hf ⊢) <;> omega) (61, i_9) (congrArg (fun k => some ((61, k) : vN)) (show (nI i_9 : Int32).toNatClampNeg = i_9 from (nI_clamp (by omega)))) dX12_isSound_82 ?_
                      refine v_iload (pc := 83) C dX12_isSound_83 0 rfl ?_
                      refine v_iald (pc := 85) C (61, i_9) (v := (g 61 i_9 i_43)) (ck_61 (g := q_43) (by (try simp only [Int32.le_iff_toInt_le, Int32.lt_iff_toInt_lt, ← Int32.toInt_inj, Int32.reduceToInt] at c_1 c_2 c_9 c_10 c_11 c_12 hq_9 hr_9 hq_43 hr_43 hu hg hf); omega)) (by (try simp only [Int32.le_iff_toInt_le, Int32.lt_iff_toInt_lt, ← Int32.toInt_inj, vp_in_iff, Int32.reduceToInt] at c_1 c_2 c_9 c_10 c_11 c_12 hq_9 hr_9 hq_43 hr_43 hu hg hf ⊢) <;> omega) ((congrArg (fun k => q_43 61 i_9 k) (show (nI i_43 : Int32).toNatClampNeg = i_43 from (nI_clamp (by omega)))).trans (hF_43 _ _ _ (by decide))) dX12_isSound_85 ?_
                      have b_13 := h3 i_9 i_43
                      have b_14 := h2 i_9
                      refine v_iload (pc := 86) C dX12_isSound_86 0 rfl ?_
                      refine v_callS (pc := 88) C (c_X12_keyOf hG (g := q_43) (nI i_9) ((g 61 i_9 i_43)) (nI i_43) ) 3 wd_1585 wd_68 wd_1583 wd_1584 (by decide +kernel) (by decide) (by decide) rfl ([.int ((g 65 i_9 i_43)), .int (x_43_1)]) rfl (Nat.le_of_ble_eq_true rfl) (by decide) dX12_isSound_88 (fun _ _ _ q => q.elim) (fun v9 A9 h9 hR9 => ?_)
                      obtain ⟨rfl, hA9, rfl⟩ := hR9
                      obtain rfl := hA9.symm
                      refine v_st (k2 := 0) (n2 := 0) (st2 := [.int ((V_X12_keyOf q_43 (nI i_9) ((g 61 i_9 i_43)) (nI i_43))), .int ((g 65 i_9 i_43)), .int (x_43_1)]) rfl rfl rfl ?_
                      refine v_callS (pc := 91) C (c_X12_opens hG ((g 65 i_9 i_43)) ((V_X12_keyOf q_43 (nI i_9) ((g 61 i_9 i_43)) (nI i_43)))) 2 wd_1647 wd_68 wd_1645 wd_1646 (by decide +kernel) (by decide) (by decide) rfl ([.int (x_43_1)]) rfl (Nat.le_of_ble_eq_true rfl) (by decide) dX12_isSound_91 (fun _ _ _ q => q.elim) (fun v9 A9 h9 hR9 => ?_)
                      obtain ⟨rfl, hA9, rfl⟩ := hR9
                      obtain rfl := hA9.symm
                      refine v_st (k2 := 0) (n2 := 0) (st2 := [.int (pUnseal ((g 65 i_9 i_43)) ((V_X12_keyOf q_43 (nI i_9) ((g 61 i_9 i_43)) (nI i_43)))), .int (x_43_1)]) rfl rfl rfl ?_
                      refine v_aload_n (pc := 94) C dX12_isSound_94 4 rfl rfl ?_
                      refine v_get (pc := 95) C (40, 0) (v := .ref (A (66, 0))) ck_40 rfl 22 (by decide) inX12 wd_1410 rfl rfl dX12_isSound_95 ?_
                      refine v_iload_n (pc := 98) C dX12_isSound_98 2 rfl rfl ?_
                      refine v_aald (pc := 99) C (66, 0) ck_66 rfl rfl (by (try simp only [Int32.le_iff_toInt_le, Int32.lt_iff_toInt_lt, ← Int32.toInt_inj, vp_in_iff, Int32.reduceToInt] at c_1 c_2 c_9 c_10 c_11 c_12 hq_9 hr_9 hq_43 hr_43 b_13 b_14 hu hg hf ⊢) <;> omega) (67, i_9) (congrArg (fun k => some ((67, k) : vN)) (show (nI i_9 : Int32).toNatClampNeg = i_9 from (nI_clamp (by omega)))) dX12_isSound_99 ?_
                      refine v_iload (pc := 100) C dX12_isSound_100 0 rfl ?_
                      refine v_iald (pc := 102) C (67, i_9) (v := (g 67 i_9 i_43)) (ck_67 (g := q_43) (by (try simp only [Int32.le_iff_toInt_le, Int32.lt_iff_toInt_lt, ← Int32.toInt_inj, Int32.reduceToInt] at c_1 c_2 c_9 c_10 c_11 c_12 hq_9 hr_9 hq_43 hr_43 b_13 b_14 hu hg hf); omega)) (by (try simp only [Int32.le_iff_toInt_le, Int32.lt_iff_toInt_lt, ← Int32.toInt_inj, vp_in_iff, Int32.reduceToInt] at c_1 c_2 c_9 c_10 c_11 c_12 hq_9 hr_9 hq_43 hr_43 b_13 b_14 hu hg hf ⊢) <;> omega) ((congrArg (fun k => q_43 67 i_9 k) (show (nI i_43 : Int32).toNatClampNeg = i_43 from (nI_clamp (by omega)))).trans (hF_43 _ _ _ (by decide))) dX12_isSound_102 ?_
                      refine v_icmp_ne (pc := 103) (tgt := 110) C dX12_isSound_103 (by decide) (fun c_15 => ?_) (fun c_15 => ?_)
                      · skip
                        refine v_iconst (v := 0) (pc := 110) C dX12_isSound_110 rfl ?_
                        refine v_iand (pc := 111) C dX12_isSound_111 ?_
                        refine v_istore_n (lv2 := [(1, .int ((x_43_1 &&& 0))), (4, .int (nI i_43)), (3, .int (x_43_3)), (2, .int (nI i_9)), (0, .ref (A (40, 0)))]) (pc := 112) C dX12_isSound_112 rfl (by decide) rfl ?_
                        refine v_iinc (v := nI (i_43 + 1)) (lv2 := [(4, .int (nI (i_43 + 1))), (1, .int ((x_43_1 &&& 0))), (3, .int (x_43_3)), (2, .int (nI i_9)), (0, .ref (A (40, 0)))]) (pc := 113) C dX12_isSound_113 1 rfl (nI_1 _) (by decide) rfl ?_
                        refine v_goto (tgt := 43) (pc := 116) C dX12_isSound_116 (by decide) ?_
                        refine v_lv (lv2 := [(4, .int (nI (i_43 + 1))), (3, .int (x_43_3)), (2, .int (nI i_9)), (1, .int ((x_43_1 &&& 0))), (0, .ref (A (40, 0)))]) [0, 2, 3, 1, 4] rfl ?_
                        exact ih2 (i_43 + 1) (x_43_3) ((x_43_1 &&& 0)) q_43 (by (try simp only [Int32.le_iff_toInt_le, Int32.lt_iff_toInt_lt, ← Int32.toInt_inj, vp_in_iff, Int32.reduceToInt] at c_1 c_2 c_9 c_10 c_11 c_12 c_15 hq_9 hr_9 hq_43 hr_43 b_13 b_14 hu hg hf ⊢) <;> omega) (by omega) (fun c i j h1 => hF_43 c i j h1) (and_bit0 hz_43) (by rw [eV_43, VL_X12_isSound_43, if_neg c_10, if_neg c_11, if_neg c_12, if_neg c_15]) (by rw [eS_43, SL_X12_isSound_43, if_neg c_10, if_neg c_11, if_neg c_12, if_neg c_15])
                      · skip
                        refine v_iconst (v := 1) (pc := 106) C dX12_isSound_106 rfl ?_
                        refine v_goto (tgt := 111) (pc := 107) C dX12_isSound_107 (by decide) ?_
                        refine v_iand (pc := 111) C dX12_isSound_111 ?_
                        refine v_istore_n (lv2 := [(1, .int ((x_43_1 &&& 1))), (4, .int (nI i_43)), (3, .int (x_43_3)), (2, .int (nI i_9)), (0, .ref (A (40, 0)))]) (pc := 112) C dX12_isSound_112 rfl (by decide) rfl ?_
                        refine v_iinc (v := nI (i_43 + 1)) (lv2 := [(4, .int (nI (i_43 + 1))), (1, .int ((x_43_1 &&& 1))), (3, .int (x_43_3)), (2, .int (nI i_9)), (0, .ref (A (40, 0)))]) (pc := 113) C dX12_isSound_113 1 rfl (nI_1 _) (by decide) rfl ?_
                        refine v_goto (tgt := 43) (pc := 116) C dX12_isSound_116 (by decide) ?_
                        refine v_lv (lv2 := [(4, .int (nI (i_43 + 1))), (3, .int (x_43_3)), (2, .int (nI i_9)), (1, .int ((x_43_1 &&& 1))), (0, .ref (A (40, 0)))]) [0, 2, 3, 1, 4] rfl ?_
                        exact ih2 (i_43 + 1) (x_43_3) ((x_43_1 &&& 1)) q_43 (by (try simp only [Int32.le_iff_toInt_le, Int32.lt_iff_toInt_lt, ← Int32.toInt_inj, vp_in_iff, Int32.reduceToInt] at c_1 c_2 c_9 c_10 c_11 c_12 c_15 hq_9 hr_9 hq_43 hr_43 b_13 b_14 hu hg hf ⊢) <;> omega) (by omega) (fun c i j h1 => hF_43 c i j h1) (and_bit1 hz_43) (by rw [eV_43, VL_X12_isSound_43, if_neg c_10, if_neg c_11, if_neg c_12, if_pos c_15]) (by rw [eS_43, SL_X12_isSound_43, if_neg c_10, if_neg c_11, if_neg c_12, if_pos c_15])
            exact L_43 (8 + 1) 0 (0) (x_9_1) q_9 (by omega) (by omega) (fun c i j h1 => hF_9 c i j h1) hz_9 (by rw [eV_9, VL_X12_isSound_9, if_neg c_1, if_pos c_2, if_neg c_9]) (by rw [eS_9, SL_X12_isSound_9, if_neg c_1, if_pos c_2, if_neg c_9])
          · skip
            refine v_iconst (v := 1) (pc := 34) C dX12_isSound_34 rfl ?_
            refine v_goto (tgt := 39) (pc := 35) C dX12_isSound_35 (by decide) ?_
            refine v_istore_n (lv2 := [(3, .int (1)), (2, .int (nI i_9)), (1, .int (x_9_1)), (0, .ref (A (40, 0)))]) (pc := 39) C dX12_isSound_39 rfl (by decide) rfl ?_
            refine v_iconst (v := 0) (pc := 40) C dX12_isSound_40 rfl ?_
            refine v_istore (lv2 := [(4, .int (0)), (3, .int (1)), (2, .int (nI i_9)), (1, .int (x_9_1)), (0, .ref (A (40, 0)))]) (pc := 41) C dX12_isSound_41 (by decide) rfl ?_
            have L_43 : ∀ (n2 : Nat) (i_43 : Nat) (x_43_3 : Int32) (x_43_1 : Int32) (q_43 : vS), i_43 ≤ 8 → 8 + 1 ≤ i_43 + n2 → (∀ (c i j : Nat), c ≠ 1 → q_43 c i j = g c i j) → x_43_1 = 0 ∨ x_43_1 = 1 → (V_X12_isSound g) = VL_X12_isSound_43 g i_9 x_9_1 q_9 (VL_X12_isSound_9 g n) n2 i_43 x_43_3 x_43_1 q_43 → (S_X12_isSound g) = SL_X12_isSound_43 g i_9 x_9_1 q_9 (SL_X12_isSound_9 g n) n2 i_43 x_43_3 x_43_1 q_43 → V G 5 X A (wm q_43 r) 0 0 (vM G X (fun v A2 h2 => v = some (.int (V_X12_isSound g)) ∧ A2 = A ∧ h2 = wm (S_X12_isSound g) r) (vNoX) 0 0) 43 [(4, .int (nI i_43)), (3, .int (x_43_3)), (2, .int (nI i_9)), (1, .int (x_43_1)), (0, .ref (A (40, 0)))] [] := by
              intro n2
              induction n2 with
              | zero => intro i_43 x_43_3 x_43_1 q_43 hi_43 hc_43 hF_43 hz_43 eV_43 eS_43; exact absurd hc_43 (by omega)
              | succ n2 ih2 =>
                intro i_43 x_43_3 x_43_1 q_43 hi_43 hc_43 hF_43 hz_43 eV_43 eS_43
                have hq_43 : (nI i_43).toInt = (i_43 : Int) := nI_toInt (by omega)
                have hr_43 : (nI (i_43 + 1)).toInt = ((i_43 + 1 : Nat) : Int) := nI_toInt (by omega)
                refine v_iload_n (pc := 43) C dX12_isSound_43 1 rfl rfl ?_
                refine v_if_eq (pc := 44) (tgt := 119) C dX12_isSound_44 (by decide) (fun c_16 => ?_) (fun c_16 => ?_)
                · skip
                  refine v_iinc (v := nI (i_9 + 1)) (lv2 := [(2, .int (nI (i_9 + 1))), (4, .int (nI i_43)), (3, .int (x_43_3)), (1, .int (x_43_1)), (0, .ref (A (40, 0)))]) (pc := 119) C dX12_isSound_119 2 rfl (nI_1 _) (by decide) rfl ?_
                  refine v_goto (tgt := 9) (pc := 122) C dX12_isSound_122 (by decide) ?_
                  refine v_lv (lv2 := [(2, .int (nI (i_9 + 1))), (1, .int (x_43_1)), (0, .ref (A (40, 0)))]) [0, 3, 4] rfl ?_
                  exact ih (i_9 + 1) (x_43_1) q_43 (by (try simp only [Int32.le_iff_toInt_le, Int32.lt_iff_toInt_lt, ← Int32.toInt_inj, vp_in_iff, Int32.reduceToInt] at c_1 c_2 c_9 c_16 hq_9 hr_9 hq_43 hr_43 hu hg hf ⊢) <;> omega) (by omega) (fun c i j h1 => hF_43 c i j h1) hz_43 (by rw [eV_43, VL_X12_isSound_43, if_pos c_16]) (by rw [eS_43, SL_X12_isSound_43, if_pos c_16])
                · skip
                  refine v_iload (pc := 47) C dX12_isSound_47 0 rfl ?_
                  refine v_bipush (v := 8) (pc := 49) C dX12_isSound_49 (by decide) ?_
                  refine v_icmp_ge (pc := 51) (tgt := 119) C dX12_isSound_51 (by decide) (fun c_17 => ?_) (fun c_17 => ?_)
                  · skip
                    refine v_iinc (v := nI (i_9 + 1)) (lv2 := [(2, .int (nI (i_9 + 1))), (4, .int (nI i_43)), (3, .int (x_43_3)), (1, .int (x_43_1)), (0, .ref (A (40, 0)))]) (pc := 119) C dX12_isSound_119 2 rfl (nI_1 _) (by decide) rfl ?_
                    refine v_goto (tgt := 9) (pc := 122) C dX12_isSound_122 (by decide) ?_
                    refine v_lv (lv2 := [(2, .int (nI (i_9 + 1))), (1, .int (x_43_1)), (0, .ref (A (40, 0)))]) [0, 3, 4] rfl ?_
                    exact ih (i_9 + 1) (x_43_1) q_43 (by (try simp only [Int32.le_iff_toInt_le, Int32.lt_iff_toInt_lt, ← Int32.toInt_inj, vp_in_iff, Int32.reduceToInt] at c_1 c_2 c_9 c_16 c_17 hq_9 hr_9 hq_43 hr_43 hu hg hf ⊢) <;> omega) (by omega) (fun c i j h1 => hF_43 c i j h1) hz_43 (by rw [eV_43, VL_X12_isSound_43, if_neg c_16, if_pos c_17]) (by rw [eS_43, SL_X12_isSound_43, if_neg c_16, if_pos c_17])
                  · skip
                    refine v_iload_n (pc := 54) C dX12_isSound_54 3 rfl rfl ?_
                    refine v_aload_n (pc := 55) C dX12_isSound_55 4 rfl rfl ?_
                    refine v_get (pc := 56) C (40, 0) (v := .ref (A (62, 0))) ck_40 rfl 20 (by decide) inX12 wd_1408 rfl rfl dX12_isSound_56 ?_
                    refine v_iload_n (pc := 59) C dX12_isSound_59 2 rfl rfl ?_
                    refine v_aald (pc := 60) C (62, 0) ck_62 rfl rfl (by (try simp only [Int32.le_iff_toInt_le, Int32.lt_iff_toInt_lt, ← Int32.toInt_inj, vp_in_iff, Int32.reduceToInt] at c_1 c_2 c_9 c_16 c_17 hq_9 hr_9 hq_43 hr_43 hu hg hf ⊢) <;> omega) (63, i_9) (congrArg (fun k => some ((63, k) : vN)) (show (nI i_9 : Int32).toNatClampNeg = i_9 from (nI_clamp (by omega)))) dX12_isSound_60 ?_
                    refine v_iload (pc := 61) C dX12_isSound_61 0 rfl ?_
                    refine v_iald (pc := 63) C (63, i_9) (v := (g 63 i_9 i_43)) (ck_63 (g := q_43) (by (try simp only [Int32.le_iff_toInt_le, Int32.lt_iff_toInt_lt, ← Int32.toInt_inj, Int32.reduceToInt] at c_1 c_2 c_9 c_16 c_17 hq_9 hr_9 hq_43 hr_43 hu hg hf); omega)) (by (try simp only [Int32.le_iff_toInt_le, Int32.lt_iff_toInt_lt, ← Int32.toInt_inj, vp_in_iff, Int32.reduceToInt] at c_1 c_2 c_9 c_16 c_17 hq_9 hr_9 hq_43 hr_43 hu hg hf ⊢) <;> omega) ((congrArg (fun k => q_43 63 i_9 k) (show (nI i_43 : Int32).toNatClampNeg = i_43 from (nI_clamp (by omega)))).trans (hF_43 _ _ _ (by decide))) dX12_isSound_63 ?_
                    refine v_if_eq (pc := 64) (tgt := 106) C dX12_isSound_64 (by decide) (fun c_18 => ?_) (fun c_18 => ?_)
                    · skip
                      refine v_iconst (v := 1) (pc := 106) C dX12_isSound_106 rfl ?_
                      refine v_goto (tgt := 111) (pc := 107) C dX12_isSound_107 (by decide) ?_
                      refine v_iand (pc := 111) C dX12_isSound_111 ?_
                      refine v_istore_n (lv2 := [(1, .int ((x_43_1 &&& 1))), (4, .int (nI i_43)), (3, .int (x_43_3)), (2, .int (nI i_9)), (0, .ref (A (40, 0)))]) (pc := 112) C dX12_isSound_112 rfl (by decide) rfl ?_
                      refine v_iinc (v := nI (i_43 + 1)) (lv2 := [(4, .int (nI (i_43 + 1))), (1, .int ((x_43_1 &&& 1))), (3, .int (x_43_3)), (2, .int (nI i_9)), (0, .ref (A (40, 0)))]) (pc := 113) C dX12_isSound_113 1 rfl (nI_1 _) (by decide) rfl ?_
                      refine v_goto (tgt := 43) (pc := 116) C dX12_isSound_116 (by decide) ?_
                      refine v_lv (lv2 := [(4, .int (nI (i_43 + 1))), (3, .int (x_43_3)), (2, .int (nI i_9)), (1, .int ((x_43_1 &&& 1))), (0, .ref (A (40, 0)))]) [0, 2, 3, 1, 4] rfl ?_
                      exact ih2 (i_43 + 1) (x_43_3) ((x_43_1 &&& 1)) q_43 (by (try simp only [Int32.le_iff_toInt_le, Int32.lt_iff_toInt_lt, ← Int32.toInt_inj, vp_in_iff, Int32.reduceToInt] at c_1 c_2 c_9 c_16 c_17 c_18 hq_9 hr_9 hq_43 hr_43 hu hg hf ⊢) <;> omega) (by omega) (fun c i j h1 => hF_43 c i j h1) (and_bit1 hz_43) (by rw [eV_43, VL_X12_isSound_43, if_neg c_16, if_neg c_17, if_pos c_18]) (by rw [eS_43, SL_X12_isSound_43, if_neg c_16, if_neg c_17, if_pos c_18])
                    · skip
                      refine v_aload_n (pc := 67) C dX12_isSound_67 4 rfl rfl ?_
                      refine v_get (pc := 68) C (40, 0) (v := .ref (A (64, 0))) ck_40 rfl 21 (by decide) inX12 wd_1409 rfl rfl dX12_isSound_68 ?_
                      refine v_iload_n (pc := 71) C dX12_isSound_71 2 rfl rfl ?_
                      refine v_aald (pc := 72) C (64, 0) ck_64 rfl rfl (by (try simp only [Int32.le_iff_toInt_le, Int32.lt_iff_toInt_lt, ← Int32.toInt_inj, vp_in_iff, Int32.reduceToInt] at c_1 c_2 c_9 c_16 c_17 c_18 hq_9 hr_9 hq_43 hr_43 hu hg hf ⊢) <;> omega) (65, i_9) (congrArg (fun k => some ((65, k) : vN)) (show (nI i_9 : Int32).toNatClampNeg = i_9 from (nI_clamp (by omega)))) dX12_isSound_72 ?_
                      refine v_iload (pc := 73) C dX12_isSound_73 0 rfl ?_
                      refine v_iald (pc := 75) C (65, i_9) (v := (g 65 i_9 i_43)) (ck_65 (g := q_43) (by (try simp only [Int32.le_iff_toInt_le, Int32.lt_iff_toInt_lt, ← Int32.toInt_inj, Int32.reduceToInt] at c_1 c_2 c_9 c_16 c_17 c_18 hq_9 hr_9 hq_43 hr_43 hu hg hf); omega)) (by (try simp only [Int32.le_iff_toInt_le, Int32.lt_iff_toInt_lt, ← Int32.toInt_inj, vp_in_iff, Int32.reduceToInt] at c_1 c_2 c_9 c_16 c_17 c_18 hq_9 hr_9 hq_43 hr_43 hu hg hf ⊢) <;> omega) ((congrArg (fun k => q_43 65 i_9 k) (show (nI i_43 : Int32).toNatClampNeg = i_43 from (nI_clamp (by omega)))).trans (hF_43 _ _ _ (by decide))) dX12_isSound_75 ?_
                      refine v_iload_n (pc := 76) C dX12_isSound_76 2 rfl rfl ?_
                      refine v_aload_n (pc := 77) C dX12_isSound_77 4 rfl rfl ?_
                      refine v_get (pc := 78) C (40, 0) (v := .ref (A (60, 0))) ck_40 rfl 19 (by decide) inX12 wd_1407 rfl rfl dX12_isSound_78 ?_
                      refine v_iload_n (pc := 81) C dX12_isSound_81 2 rfl rfl ?_
                      refine v_aald (pc := 82) C (60, 0) ck_60 rfl rfl (by (try simp only [Int32.le_iff_toInt_le, Int32.lt_iff_toInt_lt, ← Int32.toInt_inj, vp_in_iff, Int32.reduceToInt] at c_1 c_2 c_9 c_16 c_17 c_18 hq_9 hr_9 hq_43 hr_43 hu hg hf ⊢) <;> omega) (61, i_9) (congrArg (fun k => some ((61, k) : vN)) (show (nI i_9 : Int32).toNatClampNeg = i_9 from (nI_clamp (by omega)))) dX12_isSound_82 ?_
                      refine v_iload (pc := 83) C dX12_isSound_83 0 rfl ?_
                      refine v_iald (pc := 85) C (61, i_9) (v := (g 61 i_9 i_43)) (ck_61 (g := q_43) (by (try simp only [Int32.le_iff_toInt_le, Int32.lt_iff_toInt_lt, ← Int32.toInt_inj, Int32.reduceToInt] at c_1 c_2 c_9 c_16 c_17 c_18 hq_9 hr_9 hq_43 hr_43 hu hg hf); omega)) (by (try simp only [Int32.le_iff_toInt_le, Int32.lt_iff_toInt_lt, ← Int32.toInt_inj, vp_in_iff, Int32.reduceToInt] at c_1 c_2 c_9 c_16 c_17 c_18 hq_9 hr_9 hq_43 hr_43 hu hg hf ⊢) <;> omega) ((congrArg (fun k => q_43 61 i_9 k) (show (nI i_43 : Int32).toNatClampNeg = i_43 from (nI_clamp (by omega)))).trans (hF_43 _ _ _ (by decide))) dX12_isSound_85 ?_
                      have b_19 := h3 i_9 i_43
                      have b_20 := h2 i_9
                      refine v_iload (pc := 86) C dX12_isSound_86 0 rfl ?_
                      refine v_callS (pc := 88) C (c_X12_keyOf hG (g := q_43) (nI i_9) ((g 61 i_9 i_43)) (nI i_43) ) 3 wd_1585 wd_68 wd_1583 wd_1584 (by decide +kernel) (by decide) (by decide) rfl ([.int ((g 65 i_9 i_43)), .int (x_43_1)]) rfl (Nat.le_of_ble_eq_true rfl) (by decide) dX12_isSound_88 (fun _ _ _ q => q.elim) (fun v9 A9 h9 hR9 => ?_)
                      obtain ⟨rfl, hA9, rfl⟩ := hR9
                      obtain rfl := hA9.symm
                      refine v_st (k2 := 0) (n2 := 0) (st2 := [.int ((V_X12_keyOf q_43 (nI i_9) ((g 61 i_9 i_43)) (nI i_43))), .int ((g 65 i_9 i_43)), .int (x_43_1)]) rfl rfl rfl ?_
                      refine v_callS (pc := 91) C (c_X12_opens hG ((g 65 i_9 i_43)) ((V_X12_keyOf q_43 (nI i_9) ((g 61 i_9 i_43)) (nI i_43)))) 2 wd_1647 wd_68 wd_1645 wd_1646 (by decide +kernel) (by decide) (by decide) rfl ([.int (x_43_1)]) rfl (Nat.le_of_ble_eq_true rfl) (by decide) dX12_isSound_91 (fun _ _ _ q => q.elim) (fun v9 A9 h9 hR9 => ?_)
                      obtain ⟨rfl, hA9, rfl⟩ := hR9
                      obtain rfl := hA9.symm
                      refine v_st (k2 := 0) (n2 := 0) (st2 := [.int (pUnseal ((g 65 i_9 i_43)) ((V_X12_keyOf q_43 (nI i_9) ((g 61 i_9 i_43)) (nI i_43)))), .int (x_43_1)]) rfl rfl rfl ?_
                      refine v_aload_n (pc := 94) C dX12_isSound_94 4 rfl rfl ?_
                      refine v_get (pc := 95) C (40, 0) (v := .ref (A (66, 0))) ck_40 rfl 22 (by decide) inX12 wd_1410 rfl rfl dX12_isSound_95 ?_
                      refine v_iload_n (pc := 98) C dX12_isSound_98 2 rfl rfl ?_
                      refine v_aald (pc := 99) C (66, 0) ck_66 rfl rfl (by (try simp only [Int32.le_iff_toInt_le, Int32.lt_iff_toInt_lt, ← Int32.toInt_inj, vp_in_iff, Int32.reduceToInt] at c_1 c_2 c_9 c_16 c_17 c_18 hq_9 hr_9 hq_43 hr_43 b_19 b_20 hu hg hf ⊢) <;> omega) (67, i_9) (congrArg (fun k => some ((67, k) : vN)) (show (nI i_9 : Int32).toNatClampNeg = i_9 from (nI_clamp (by omega)))) dX12_isSound_99 ?_
                      refine v_iload (pc := 100) C dX12_isSound_100 0 rfl ?_
                      refine v_iald (pc := 102) C (67, i_9) (v := (g 67 i_9 i_43)) (ck_67 (g := q_43) (by (try simp only [Int32.le_iff_toInt_le, Int32.lt_iff_toInt_lt, ← Int32.toInt_inj, Int32.reduceToInt] at c_1 c_2 c_9 c_16 c_17 c_18 hq_9 hr_9 hq_43 hr_43 b_19 b_20 hu hg hf); omega)) (by (try simp only [Int32.le_iff_toInt_le, Int32.lt_iff_toInt_lt, ← Int32.toInt_inj, vp_in_iff, Int32.reduceToInt] at c_1 c_2 c_9 c_16 c_17 c_18 hq_9 hr_9 hq_43 hr_43 b_19 b_20 hu hg hf ⊢) <;> omega) ((congrArg (fun k => q_43 67 i_9 k) (show (nI i_43 : Int32).toNatClampNeg = i_43 from (nI_clamp (by omega)))).trans (hF_43 _ _ _ (by decide))) dX12_isSound_102 ?_
                      refine v_icmp_ne (pc := 103) (tgt := 110) C dX12_isSound_103 (by decide) (fun c_21 => ?_) (fun c_21 => ?_)
                      · skip
                        refine v_iconst (v := 0) (pc := 110) C dX12_isSound_110 rfl ?_
                        refine v_iand (pc := 111) C dX12_isSound_111 ?_
                        refine v_istore_n (lv2 := [(1, .int ((x_43_1 &&& 0))), (4, .int (nI i_43)), (3, .int (x_43_3)), (2, .int (nI i_9)), (0, .ref (A (40, 0)))]) (pc := 112) C dX12_isSound_112 rfl (by decide) rfl ?_
                        refine v_iinc (v := nI (i_43 + 1)) (lv2 := [(4, .int (nI (i_43 + 1))), (1, .int ((x_43_1 &&& 0))), (3, .int (x_43_3)), (2, .int (nI i_9)), (0, .ref (A (40, 0)))]) (pc := 113) C dX12_isSound_113 1 rfl (nI_1 _) (by decide) rfl ?_
                        refine v_goto (tgt := 43) (pc := 116) C dX12_isSound_116 (by decide) ?_
                        refine v_lv (lv2 := [(4, .int (nI (i_43 + 1))), (3, .int (x_43_3)), (2, .int (nI i_9)), (1, .int ((x_43_1 &&& 0))), (0, .ref (A (40, 0)))]) [0, 2, 3, 1, 4] rfl ?_
                        exact ih2 (i_43 + 1) (x_43_3) ((x_43_1 &&& 0)) q_43 (by (try simp only [Int32.le_iff_toInt_le, Int32.lt_iff_toInt_lt, ← Int32.toInt_inj, vp_in_iff, Int32.reduceToInt] at c_1 c_2 c_9 c_16 c_17 c_18 c_21 hq_9 hr_9 hq_43 hr_43 b_19 b_20 hu hg hf ⊢) <;> omega) (by omega) (fun c i j h1 => hF_43 c i j h1) (and_bit0 hz_43) (by rw [eV_43, VL_X12_isSound_43, if_neg c_16, if_neg c_17, if_neg c_18, if_neg c_21]) (by rw [eS_43, SL_X12_isSound_43, if_neg c_16, if_neg c_17, if_neg c_18, if_neg c_21])
                      · skip
                        refine v_iconst (v := 1) (pc := 106) C dX12_isSound_106 rfl ?_
                        refine v_goto (tgt := 111) (pc := 107) C dX12_isSound_107 (by decide) ?_
                        refine v_iand (pc := 111) C dX12_isSound_111 ?_
                        refine v_istore_n (lv2 := [(1, .int ((x_43_1 &&& 1))), (4, .int (nI i_43)), (3, .int (x_43_3)), (2, .int (nI i_9)), (0, .ref (A (40, 0)))]) (pc := 112) C dX12_isSound_112 rfl (by decide) rfl ?_
                        refine v_iinc (v := nI (i_43 + 1)) (lv2 := [(4, .int (nI (i_43 + 1))), (1, .int ((x_43_1 &&& 1))), (3, .int (x_43_3)), (2, .int (nI i_9)), (0, .ref (A (40, 0)))]) (pc := 113) C dX12_isSound_113 1 rfl (nI_1 _) (by decide) rfl ?_
                        refine v_goto (tgt := 43) (pc := 116) C dX12_isSound_116 (by decide) ?_
                        refine v_lv (lv2 := [(4, .int (nI (i_43 + 1))), (3, .int (x_43_3)), (2, .int (nI i_9)), (1, .int ((x_43_1 &&& 1))), (0, .ref (A (40, 0)))]) [0, 2, 3, 1, 4] rfl ?_
                        exact ih2 (i_43 + 1) (x_43_3) ((x_43_1 &&& 1)) q_43 (by (try simp only [Int32.le_iff_toInt_le, Int32.lt_iff_toInt_lt, ← Int32.toInt_inj, vp_in_iff, Int32.reduceToInt] at c_1 c_2 c_9 c_16 c_17 c_18 c_21 hq_9 hr_9 hq_43 hr_43 b_19 b_20 hu hg hf ⊢) <;> omega) (by omega) (fun c i j h1 => hF_43 c i j h1) (and_bit1 hz_43) (by rw [eV_43, VL_X12_isSound_43, if_neg c_16, if_neg c_17, if_neg c_18, if_pos c_21]) (by rw [eS_43, SL_X12_isSound_43, if_neg c_16, if_neg c_17, if_neg c_18, if_pos c_21])
            exact L_43 (8 + 1) 0 (1) (x_9_1) q_9 (by omega) (by omega) (fun c i j h1 => hF_9 c i j h1) hz_9 (by rw [eV_9, VL_X12_isSound_9, if_neg c_1, if_pos c_2, if_pos c_9]) (by rw [eS_9, SL_X12_isSound_9, if_neg c_1, if_pos c_2, if_pos c_9])
  exact L_9 (20 + 1) 0 (1) (s3 g 1 0 0 (0)) (by omega) (by omega) (fun c i j h1 => s3_k h1) (Or.inr rfl) (by rw [V_X12_isSound]) (by rw [S_X12_isSound])
