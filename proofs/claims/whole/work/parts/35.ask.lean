
/-- at most D tokens were shown; their row is long enough and no longer than that asks -/
def vM10 (D : Nat) (g : vS) : Prop := 0 ≤ (g 6 0 0).toInt ∧ (g 6 0 0).toInt ≤ D ∧ (g 6 0 0).toInt ≤ ((g 14 0 0).toNatClampNeg : Int) ∧ 1 ≤ (g 14 0 0).toNatClampNeg ∧ (g 14 0 0).toNatClampNeg ≤ 2 * D + 64
theorem vM10_k {D : Nat} {g G : vS} (h : ∀ i j, G 6 i j = g 6 i j) (h2 : ∀ i j, G 14 i j = g 14 i j) (q : vM10 D g) : vM10 D G := by unfold vM10; rw [h, h2]; exact q
theorem vM10_le {D E : Nat} {g : vS} (h : D ≤ E) (q : vM10 D g) : vM10 E g := by unfold vM10 at q ⊢; omega
/-- epochs are at most E; what is known are epochs or none -/
def vM11 (E : Nat) (g : vS) : Prop := ∀ i u : Nat, 0 ≤ (g 50 i 0).toInt ∧ (g 50 i 0).toInt ≤ E ∧ -1 ≤ (g 54 i u).toInt ∧ (g 54 i u).toInt ≤ E
theorem vM11_k {E : Nat} {g G : vS} (h : ∀ i j, G 50 i j = g 50 i j) (h2 : ∀ i j, G 54 i j = g 54 i j) (q : vM11 E g) : vM11 E G := fun i u => by rw [h, h2]; exact q i u
/-- tokens are kept with files that can be there -/
def vM12 (g : vS) : Prop := ∀ k : Nat, 0 ≤ (g 70 k 0).toInt ∧ (g 70 k 0).toInt < 20
theorem vM12_k {g G : vS} (h : ∀ i j, G 70 i j = g 70 i j) (q : vM12 g) : vM12 G := fun k => by rw [h]; exact q k
/-- what was found is told by 0 and 1 -/
def vM13 (g : vS) : Prop := ∀ f : Nat, g 72 f 0 = 0 ∨ g 72 f 0 = 1
theorem vM13_k {g G : vS} (h : ∀ i j, G 72 i j = g 72 i j) (q : vM13 g) : vM13 G := fun f => by rw [h]; exact q f
theorem vM13_s {g : vS} {f : Nat} {v : Int32} (h : v = 0 ∨ v = 1) (q : vM13 g) : vM13 (s3 g 72 f 0 v) := fun i => by
  by_cases hi : i = f
  · subst hi; rw [s3_s]; exact h
  · rw [s3_i hi]; exact q i
theorem vpn_b {v : Int32} (h : v = 0 ∨ v = 1) : vp_nar .boolean v = v := by rcases h with rfl | rfl <;> first | rfl | decide
theorem ok_latest {E : Nat} {g : vS} {x u : Int32} (h : vM11 E g) : -1 ≤ (V_X12_latest g x u).toInt ∧ (V_X12_latest g x u).toInt ≤ E := by
  have a := h (x).toNatClampNeg (u).toNatClampNeg
  unfold V_X12_latest
  split <;> omega
def vPw (g : vS) : Nat := (g 14 0 0).toNatClampNeg
theorem vPw_k {g G : vS} (h : ∀ i j, G 14 i j = g 14 i j) : vPw G = vPw g := by unfold vPw; rw [h]
theorem inw_a {v : Int32} {L : Nat} (h0 : 0 ≤ v.toInt) (h : v.toInt ≤ (L : Int)) (hL : L ≤ 100000) (c : ¬ v = nI L) : vp_in v L := by
  have q : v.toInt ≠ (L : Int) := fun z => c (Int32.toInt_inj.mp (z.trans (nI_toInt (by omega)).symm))
  simp only [vp_in_iff]
  omega
theorem inw_b {v : Int32} {L : Nat} (h1 : 1 ≤ L) (hL : L ≤ 100000) (c : v = nI L) : vp_in v (nI (2 * L)).toNatClampNeg := by
  have q : v.toInt = (L : Int) := by rw [c]; exact nI_toInt (by omega)
  rw [nI_clamp (by omega)]
  simp only [vp_in_iff]
  omega

def SL_X12_shows_4 (g : vS) (x : Int32) : Nat → Nat → Int32 → vS
  | 0, _, _ => g
  | n + 1, i_4, x_4_2 => (if (g 6 0 0) ≤ nI i_4 then (if x_4_2 = 0 then (if (g 6 0 0) = nI (((s3 (s3 g 7 0 0 (((g 7 0 0) + 1))) 8 0 0 (((g 8 0 0) + 0))) 14 0 0).toNatClampNeg) then (s3 (s3 (gW (s3 (s3 g 7 0 0 (((g 7 0 0) + 1))) 8 0 0 (((g 8 0 0) + 0)))) 71 ((g 6 0 0)).toNatClampNeg 0 (x)) 6 0 0 (((g 6 0 0) + 1))) else (s3 (s3 (s3 (s3 g 7 0 0 (((g 7 0 0) + 1))) 8 0 0 (((g 8 0 0) + 0))) 71 ((g 6 0 0)).toNatClampNeg 0 (x)) 6 0 0 (((g 6 0 0) + 1)))) else (s3 (s3 g 7 0 0 (((g 7 0 0) + 0))) 8 0 0 (((g 8 0 0) + 1)))) else (if (g 71 i_4 0) = x then (SL_X12_shows_4 g x n (i_4 + 1) ((x_4_2 ||| 1))) else (SL_X12_shows_4 g x n (i_4 + 1) ((x_4_2 ||| 0)))))
def S_X12_shows (g : vS) (x : Int32) : vS := (SL_X12_shows_4 g x (65536 + 1) 0 (0))
theorem FL_X12_shows_4 {g : vS} {x : Int32} {c i j : Nat} (h6 : c ≠ 6) (h7 : c ≠ 7) (h8 : c ≠ 8) (h14 : c ≠ 14) (h71 : c ≠ 71) : ∀ (n : Nat) (a0 : Nat) (a1 : Int32), True → SL_X12_shows_4 g x n a0 a1 c i j = g c i j := by
  intro n
  induction n with
  | zero => intro a0 a1 hq9; rfl
  | succ n ih =>
    intro a0 a1 hq9
    simp only [SL_X12_shows_4]
    (repeat' split) <;> first | rfl | exact hq9 | (apply ih; first | exact hq9 | rfl | trivial | ((simp only [s3_k h6, s3_k h7, s3_k h8, s3_k h14, s3_k h71, F_gW h14 h71]) <;> first | done | exact hq9 | rfl)) | ((simp only [s3_k h6, s3_k h7, s3_k h8, s3_k h14, s3_k h71, F_gW h14 h71]) <;> first | done | exact hq9 | rfl)
theorem F_X12_shows {g : vS} {x : Int32} {c i j : Nat} (h6 : c ≠ 6) (h7 : c ≠ 7) (h8 : c ≠ 8) (h14 : c ≠ 14) (h71 : c ≠ 71) : S_X12_shows g x c i j = g c i j := by
  unfold S_X12_shows
  (repeat' split) <;> first | rfl | (apply FL_X12_shows_4 h6 h7 h8 h14 h71; first | rfl | trivial | ((simp only [s3_k h6, s3_k h7, s3_k h8, s3_k h14, s3_k h71, F_gW h14 h71]) <;> first | done | rfl)) | ((simp only [s3_k h6, s3_k h7, s3_k h8, s3_k h14, s3_k h71, F_gW h14 h71]) <;> first | done | rfl)

theorem M10_shows {D : Nat} {g : vS} {x : Int32} (h : vM10 D g) (hD : D ≤ 45000) : vM10 (D + 1) (S_X12_shows g x) ∧ vPw g ≤ vPw (S_X12_shows g x) := by
  obtain ⟨hs0, hsD, hsL, hL1, hL2⟩ := id h
  have e : (g 6 0 0 + 1).toInt = (g 6 0 0).toInt + 1 := i32_add1 (by omega)
  have KA : ∀ a b : Int32, vM10 (D + 1) (s3 (s3 g 7 0 0 a) 8 0 0 b) ∧ vPw g ≤ vPw (s3 (s3 g 7 0 0 a) 8 0 0 b) := fun a b => ⟨vM10_le (by omega) (vM10_k (fun i j => (s3_k (by decide)).trans (s3_k (by decide))) (fun i j => (s3_k (by decide)).trans (s3_k (by decide))) h), Nat.le_of_eq (vPw_k (fun i j => (s3_k (by decide)).trans (s3_k (by decide)))).symm⟩
  have KB : ∀ (a b : Int32) (k : Nat), ¬ (g 6 0 0) = nI (((s3 (s3 g 7 0 0 a) 8 0 0 b) 14 0 0).toNatClampNeg) → vM10 (D + 1) (s3 (s3 (s3 (s3 g 7 0 0 a) 8 0 0 b) 71 k 0 x) 6 0 0 (g 6 0 0 + 1)) ∧ vPw g ≤ vPw (s3 (s3 (s3 (s3 g 7 0 0 a) 8 0 0 b) 71 k 0 x) 6 0 0 (g 6 0 0 + 1)) := fun a b k c => by
    rw [s3_k (by decide), s3_k (by decide)] at c
    have e14 : ∀ i j, (s3 (s3 (s3 (s3 g 7 0 0 a) 8 0 0 b) 71 k 0 x) 6 0 0 (g 6 0 0 + 1)) 14 i j = g 14 i j := fun i j => (s3_k (by decide)).trans ((s3_k (by decide)).trans ((s3_k (by decide)).trans (s3_k (by decide))))
    have q : (g 6 0 0).toInt ≠ ((g 14 0 0).toNatClampNeg : Int) := fun z => c (Int32.toInt_inj.mp (z.trans (nI_toInt (by omega)).symm))
    refine ⟨?_, Nat.le_of_eq (vPw_k e14).symm⟩
    unfold vM10
    rw [s3_s, e14, e]
    omega
  have KC : ∀ (a b : Int32) (k : Nat), (g 6 0 0) = nI (((s3 (s3 g 7 0 0 a) 8 0 0 b) 14 0 0).toNatClampNeg) → vM10 (D + 1) (s3 (s3 (gW (s3 (s3 g 7 0 0 a) 8 0 0 b)) 71 k 0 x) 6 0 0 (g 6 0 0 + 1)) ∧ vPw g ≤ vPw (s3 (s3 (gW (s3 (s3 g 7 0 0 a) 8 0 0 b)) 71 k 0 x) 6 0 0 (g 6 0 0 + 1)) := fun a b k c => by
    rw [s3_k (by decide), s3_k (by decide)] at c
    have e14 : ((s3 (s3 (gW (s3 (s3 g 7 0 0 a) 8 0 0 b)) 71 k 0 x) 6 0 0 (g 6 0 0 + 1)) 14 0 0).toNatClampNeg = 2 * (g 14 0 0).toNatClampNeg := by
      rw [s3_k (by decide), s3_k (by decide), gW_14, s3_k (by decide), s3_k (by decide)]
      exact nI_clamp (by omega)
    have q : (g 6 0 0).toInt = ((g 14 0 0).toNatClampNeg : Int) := by rw [c]; exact nI_toInt (by omega)
    refine ⟨?_, ?_⟩
    · unfold vM10
      rw [s3_s, e14, e]
      omega
    · unfold vPw
      rw [e14]
      omega
  have k : ∀ (n i : Nat) (y : Int32), vM10 (D + 1) (SL_X12_shows_4 g x n i y) ∧ vPw g ≤ vPw (SL_X12_shows_4 g x n i y) := by
    intro n
    induction n with
    | zero => intro i y; exact ⟨vM10_le (by omega) h, Nat.le_refl _⟩
    | succ n ih =>
      intro i y
      simp only [SL_X12_shows_4]
      split
      · split
        · split
          · rename_i c; exact KC _ _ _ c
          · rename_i c; exact KB _ _ _ c
        · exact KA _ _
      · split
        · exact ih _ _
        · exact ih _ _
  exact k _ _ _

set_option maxHeartbeats 4000000 in
set_option maxRecDepth 100000 in
theorem c_X12_shows {G : vG} (hG : G.1.stackTraces = false) {A : vN → Nat} {g : vS} {r : vH} (x : Int32) (hu0 : 0 ≤ (g 2 0 0).toInt) (hu : (g 2 0 0).toInt ≤ 6) (hg0 : 0 ≤ (g 3 0 0).toInt) (hg : (g 3 0 0).toInt ≤ 5) (hf0 : 0 ≤ (g 4 0 0).toInt) (hf : (g 4 0 0).toInt ≤ 20) (D : Nat) (h10 : vM10 D g) (hD : D ≤ 45000) (hr : vNq r) : vCt G yX12_shows cX12_shows 5 none 0 [.ref (A (40, 0)), .int (x)] A (wm g r) (fun v A2 h2 => v = none ∧ vAs 71 71 A2 A ∧ h2 = wm (S_X12_shows g x) r) (vNoX) (vPw (S_X12_shows g x) - vPw g) (2 * (vPw (S_X12_shows g x) - vPw g)) := by
  refine v_of hG (by decide +kernel) (Nat.le_of_ble_eq_true rfl) (lv := [(0, .ref (A (40, 0))), (1, .int (x))]) rfl (fun X C hnx => ?_)
  have C : vC G X cX12_shows 5 RX12 none "shows" 0 (vPw (S_X12_shows g x) - vPw g) (2 * (vPw (S_X12_shows g x) - vPw g)) := C
  have ⟨hs0, hsD, hsL, hL1, hL2⟩ := h10
  refine v_iconst (v := 0) (pc := 0) C dX12_shows_0 rfl ?_
  refine v_istore_n (lv2 := [(2, .int (0)), (0, .ref (A (40, 0))), (1, .int (x))]) (pc := 1) C dX12_shows_1 rfl (by decide) rfl ?_
  refine v_iconst (v := 0) (pc := 2) C dX12_shows_2 rfl ?_
  refine v_istore_n (lv2 := [(3, .int (0)), (2, .int (0)), (0, .ref (A (40, 0))), (1, .int (x))]) (pc := 3) C dX12_shows_3 rfl (by decide) rfl ?_
  have L_4 : ∀ (n : Nat) (AL_4 : vN → Nat) (i_4 : Nat) (x_4_2 : Int32), i_4 ≤ 65536 → 65536 + 1 ≤ i_4 + n → vAs 71 71 AL_4  A → x_4_2 = 0 ∨ x_4_2 = 1 → (S_X12_shows g x) = SL_X12_shows_4 g x n i_4 x_4_2 → V G 5 X AL_4 (wm g r) 0 0 (vM G X (fun v A2 h2 => v = none ∧ vAs 71 71 A2 A ∧ h2 = wm (S_X12_shows g x) r) (vNoX) (vPw (S_X12_shows g x) - vPw g) (2 * (vPw (S_X12_shows g x) - vPw g))) 4 [(3, .int (nI i_4)), (2, .int (x_4_2)), (0, .ref (AL_4 (40, 0))), (1, .int (x))] [] := by
    intro n
    induction n with
    | zero => intro AL_4 i_4 x_4_2 hi_4 hc_4 hv_4 hz_4 eS_4; exact absurd hc_4 (by omega)
    | succ n ih =>
      intro AL_4 i_4 x_4_2 hi_4 hc_4 hv_4 hz_4 eS_4
      have hq_4 : (nI i_4).toInt = (i_4 : Int) := nI_toInt (by omega)
      have hr_4 : (nI (i_4 + 1)).toInt = ((i_4 + 1 : Nat) : Int) := nI_toInt (by omega)
      refine v_iload_n (pc := 4) C dX12_shows_4 0 rfl rfl ?_
      refine v_aload_n (pc := 5) C dX12_shows_5 2 rfl rfl ?_
      refine v_get (pc := 6) C (40, 0) (v := .int ((g 6 0 0))) ck_40 rfl 30 (by decide) inX12 wd_1418 rfl rfl dX12_shows_6 ?_
      refine v_icmp_ge (pc := 9) (tgt := 36) C dX12_shows_9 (by decide) (fun c_1 => ?_) (fun c_1 => ?_)
      · skip
        refine v_aload_n (pc := 36) C dX12_shows_36 2 rfl rfl ?_
        refine v_dup (pc := 37) C dX12_shows_37 rfl ?_
        refine v_get (pc := 38) C (40, 0) (v := .int ((g 7 0 0))) ck_40 rfl 31 (by decide) inX12 wd_1419 rfl rfl dX12_shows_38 ?_
        refine v_iload_n (pc := 41) C dX12_shows_41 1 rfl rfl ?_
        refine v_if_eq (pc := 42) (tgt := 49) C dX12_shows_42 (by decide) (fun c_2 => ?_) (fun c_2 => ?_)
        · skip
          refine v_iconst (v := 1) (pc := 49) C dX12_shows_49 rfl ?_
          refine v_iadd (pc := 50) C dX12_shows_50 ?_
          refine v_put (pc := 51) C (40, 0) (v := .int (((g 7 0 0) + 1))) ck_40 rfl 31 (by decide) inX12 tyX12 tyX12_ok nmX12 wd_1419 rfl (.inl (Value.int (((g 7 0 0) + 1)))) rfl (ty := tyX12 31) (by decide +kernel) rfl rfl (Nat.le_of_ble_eq_true rfl) dX12_shows_51 ?_
          refine v_h (h2 := (wm (s3 g 7 0 0 (((g 7 0 0) + 1))) r)) (u_40_31) ?_
          refine v_aload_n (pc := 54) C dX12_shows_54 2 rfl rfl ?_
          refine v_dup (pc := 55) C dX12_shows_55 rfl ?_
          refine v_get (pc := 56) C (40, 0) (v := .int ((g 8 0 0))) ck_40 rfl 32 (by decide) inX12 wd_1420 rfl rfl dX12_shows_56 ?_
          refine v_iload_n (pc := 59) C dX12_shows_59 1 rfl rfl ?_
          refine v_if_eq (pc := 60) (tgt := 67) C dX12_shows_60 (by decide) (fun c_3 => ?_) (fun c_3 => ?_)
          · skip
            refine v_iconst (v := 0) (pc := 67) C dX12_shows_67 rfl ?_
            refine v_iadd (pc := 68) C dX12_shows_68 ?_
            refine v_put (pc := 69) C (40, 0) (v := .int (((g 8 0 0) + 0))) ck_40 rfl 32 (by decide) inX12 tyX12 tyX12_ok nmX12 wd_1420 rfl (.inl (Value.int (((g 8 0 0) + 0)))) rfl (ty := tyX12 32) (by decide +kernel) rfl rfl (Nat.le_of_ble_eq_true rfl) dX12_shows_69 ?_
            refine v_h (h2 := (wm (s3 (s3 g 7 0 0 (((g 7 0 0) + 1))) 8 0 0 (((g 8 0 0) + 0))) r)) (u_40_32) ?_
            refine v_iload_n (pc := 72) C dX12_shows_72 1 rfl rfl ?_
            refine v_if_eq (pc := 73) (tgt := 77) C dX12_shows_73 (by decide) (fun c_4 => ?_) (fun c_4 => ?_)
            · skip
              refine v_aload_n (pc := 77) C dX12_shows_77 2 rfl rfl ?_
              refine v_get (pc := 78) C (40, 0) (v := .int ((g 6 0 0))) ck_40 rfl 30 (by decide) inX12 wd_1418 rfl rfl dX12_shows_78 ?_
              refine v_aload_n (pc := 81) C dX12_shows_81 2 rfl rfl ?_
              refine v_get (pc := 82) C (40, 0) (v := .ref (AL_4 (71, 0))) ck_40 rfl 27 (by decide) inX12 wd_1415 rfl rfl dX12_shows_82 ?_
              refine v_alen (pc := 85) C (71, 0) (v := nI (((s3 (s3 g 7 0 0 (((g 7 0 0) + 1))) 8 0 0 (((g 8 0 0) + 0))) 14 0 0).toNatClampNeg)) ck_71 rfl rfl dX12_shows_85 ?_
              refine v_icmp_ne (pc := 86) (tgt := 132) C dX12_shows_86 (by decide) (fun c_5 => ?_) (fun c_5 => ?_)
              · skip
                refine v_aload_n (pc := 132) C dX12_shows_132 2 rfl rfl ?_
                refine v_get (pc := 133) C (40, 0) (v := .ref (AL_4 (71, 0))) ck_40 rfl 27 (by decide) inX12 wd_1415 rfl rfl dX12_shows_133 ?_
                refine v_aload_n (pc := 136) C dX12_shows_136 2 rfl rfl ?_
                refine v_get (pc := 137) C (40, 0) (v := .int ((g 6 0 0))) ck_40 rfl 30 (by decide) inX12 wd_1418 rfl rfl dX12_shows_137 ?_
                refine v_iload_n (pc := 140) C dX12_shows_140 3 rfl rfl ?_
                refine v_iast (pc := 141) C (71, 0) (x := x) ck_71 (inw_a hs0 (by rw [show (s3 (s3 g 7 0 0 (((g 7 0 0) + 1))) 8 0 0 (((g 8 0 0) + 0))) 14 0 0 = g 14 0 0 from (s3_k (by decide)).trans (s3_k (by decide))]; exact hsL) (by rw [show (s3 (s3 g 7 0 0 (((g 7 0 0) + 1))) 8 0 0 (((g 8 0 0) + 0))) 14 0 0 = g 14 0 0 from (s3_k (by decide)).trans (s3_k (by decide))]; omega) c_5) dX12_shows_141 ?_
                refine v_h (h2 := (wm (s3 (s3 (s3 g 7 0 0 (((g 7 0 0) + 1))) 8 0 0 (((g 8 0 0) + 0))) 71 ((g 6 0 0)).toNatClampNeg 0 (x)) r)) (u_71_a) ?_
                refine v_aload_n (pc := 142) C dX12_shows_142 2 rfl rfl ?_
                refine v_dup (pc := 143) C dX12_shows_143 rfl ?_
                refine v_get (pc := 144) C (40, 0) (v := .int ((g 6 0 0))) ck_40 rfl 30 (by decide) inX12 wd_1418 rfl rfl dX12_shows_144 ?_
                refine v_iconst (v := 1) (pc := 147) C dX12_shows_147 rfl ?_
                refine v_iadd (pc := 148) C dX12_shows_148 ?_
                refine v_put (pc := 149) C (40, 0) (v := .int (((g 6 0 0) + 1))) ck_40 rfl 30 (by decide) inX12 tyX12 tyX12_ok nmX12 wd_1418 rfl (.inl (Value.int (((g 6 0 0) + 1)))) rfl (ty := tyX12 30) (by decide +kernel) rfl rfl (Nat.le_of_ble_eq_true rfl) dX12_shows_149 ?_
                refine v_h (h2 := (wm (s3 (s3 (s3 (s3 g 7 0 0 (((g 7 0 0) + 1))) 8 0 0 (((g 8 0 0) + 0))) 71 ((g 6 0 0)).toNatClampNeg 0 (x)) 6 0 0 (((g 6 0 0) + 1))) r)) (u_40_30) ?_
                exact v_vret (pc := 152) C (Nat.zero_le _) (Nat.zero_le _) dX12_shows_152 ⟨rfl, (vAs_w hv_4 (by decide) (by decide)), (congrArg (fun q => wm q r) (by show _ = _; rw [eS_4, SL_X12_shows_4, if_pos c_1, if_pos c_2, if_neg c_5]))⟩
              · skip
                have hp9 : vPw (S_X12_shows g x) = 2 * (g 14 0 0).toNatClampNeg := by
                  rw [show S_X12_shows g x = (s3 (s3 (gW (s3 (s3 g 7 0 0 (((g 7 0 0) + 1))) 8 0 0 (((g 8 0 0) + 0)))) 71 ((g 6 0 0)).toNatClampNeg 0 (x)) 6 0 0 (((g 6 0 0) + 1))) from (by rw [eS_4, SL_X12_shows_4, if_pos c_1, if_pos c_2, if_pos c_5])]
                  show ((s3 (s3 (gW (s3 (s3 g 7 0 0 (((g 7 0 0) + 1))) 8 0 0 (((g 8 0 0) + 0)))) 71 ((g 6 0 0)).toNatClampNeg 0 (x)) 6 0 0 (((g 6 0 0) + 1))) 14 0 0).toNatClampNeg = _
                  rw [s3_k (by decide), s3_k (by decide), gW_14, show (s3 (s3 g 7 0 0 (((g 7 0 0) + 1))) 8 0 0 (((g 8 0 0) + 0))) 14 0 0 = g 14 0 0 from (s3_k (by decide)).trans (s3_k (by decide))]
                  exact nI_clamp (by omega)
                have hp8 : vPw g = (g 14 0 0).toNatClampNeg := rfl
                have hroom : 0 + 1 ≤ (vPw (S_X12_shows g x) - vPw g) ∧ 0 + 2 * (g 14 0 0).toNatClampNeg ≤ 2 * (vPw (S_X12_shows g x) - vPw g) := ⟨by omega, by omega⟩
                refine v_lv (lv2 := [(0, .ref (AL_4 (40, 0))), (1, .int (x))]) [2, 3] rfl ?_
                refine tb_shows (g := (s3 (s3 g 7 0 0 (((g 7 0 0) + 1))) 8 0 0 (((g 8 0 0) + 0)))) C x (by rw [show (s3 (s3 g 7 0 0 (((g 7 0 0) + 1))) 8 0 0 (((g 8 0 0) + 0))) 6 0 0 = g 6 0 0 from (s3_k (by decide)).trans (s3_k (by decide))]; exact c_5) (by rw [show (s3 (s3 g 7 0 0 (((g 7 0 0) + 1))) 8 0 0 (((g 8 0 0) + 0))) 14 0 0 = g 14 0 0 from (s3_k (by decide)).trans (s3_k (by decide))]; omega) hr hroom.1 (by rw [show (s3 (s3 g 7 0 0 (((g 7 0 0) + 1))) 8 0 0 (((g 8 0 0) + 0))) 14 0 0 = g 14 0 0 from (s3_k (by decide)).trans (s3_k (by decide))]; exact hroom.2) (fun A_1 hA_1 => ?_)
                refine v_st (k2 := (0 + 1)) (n2 := (0 + 2 * (g 14 0 0).toNatClampNeg)) (st2 := []) rfl (by rw [show (s3 (s3 g 7 0 0 (((g 7 0 0) + 1))) 8 0 0 (((g 8 0 0) + 0))) 14 0 0 = g 14 0 0 from (s3_k (by decide)).trans (s3_k (by decide))]) rfl ?_
                refine v_aload_n (pc := 132) C dX12_shows_132 0 rfl rfl ?_
                refine v_get (pc := 133) C (40, 0) (v := .ref (A_1 (71, 0))) ck_40 rfl 27 (by decide) inX12 wd_1415 rfl rfl dX12_shows_133 ?_
                refine v_aload_n (pc := 136) C dX12_shows_136 0 rfl rfl ?_
                refine v_get (pc := 137) C (40, 0) (v := .int ((g 6 0 0))) ck_40 rfl 30 (by decide) inX12 wd_1418 rfl (congrArg Value.int ((F_gW (by decide) (by decide)).trans ((s3_k (by decide)).trans (s3_k (by decide))))) dX12_shows_137 ?_
                refine v_iload_n (pc := 140) C dX12_shows_140 1 rfl rfl ?_
                refine v_iast (pc := 141) C (71, 0) (x := x) ck_71 (by rw [gW_14]; exact inw_b (by rw [show (s3 (s3 g 7 0 0 (((g 7 0 0) + 1))) 8 0 0 (((g 8 0 0) + 0))) 14 0 0 = g 14 0 0 from (s3_k (by decide)).trans (s3_k (by decide))]; exact hL1) (by rw [show (s3 (s3 g 7 0 0 (((g 7 0 0) + 1))) 8 0 0 (((g 8 0 0) + 0))) 14 0 0 = g 14 0 0 from (s3_k (by decide)).trans (s3_k (by decide))]; omega) c_5) dX12_shows_141 ?_
                refine v_h (h2 := (wm (s3 (gW (s3 (s3 g 7 0 0 (((g 7 0 0) + 1))) 8 0 0 (((g 8 0 0) + 0)))) 71 ((g 6 0 0)).toNatClampNeg 0 (x)) r)) (u_71_a) ?_
                refine v_aload_n (pc := 142) C dX12_shows_142 0 rfl rfl ?_
                refine v_dup (pc := 143) C dX12_shows_143 rfl ?_
                refine v_get (pc := 144) C (40, 0) (v := .int ((g 6 0 0))) ck_40 rfl 30 (by decide) inX12 wd_1418 rfl (congrArg Value.int ((s3_k (by decide)).trans ((F_gW (by decide) (by decide)).trans ((s3_k (by decide)).trans (s3_k (by decide)))))) dX12_shows_144 ?_
                refine v_iconst (v := 1) (pc := 147) C dX12_shows_147 rfl ?_
                refine v_iadd (pc := 148) C dX12_shows_148 ?_
                refine v_put (pc := 149) C (40, 0) (v := .int (((g 6 0 0) + 1))) ck_40 rfl 30 (by decide) inX12 tyX12 tyX12_ok nmX12 wd_1418 rfl (.inl (Value.int (((g 6 0 0) + 1)))) rfl (ty := tyX12 30) (by decide +kernel) rfl rfl (Nat.le_of_ble_eq_true rfl) dX12_shows_149 ?_
                refine v_h (h2 := (wm (s3 (s3 (gW (s3 (s3 g 7 0 0 (((g 7 0 0) + 1))) 8 0 0 (((g 8 0 0) + 0)))) 71 ((g 6 0 0)).toNatClampNeg 0 (x)) 6 0 0 (((g 6 0 0) + 1))) r)) (u_40_30) ?_
                exact v_vret (pc := 152) C (by omega) (by omega) dX12_shows_152 ⟨rfl, (vAs_t (vAs_w hA_1 (by decide) (by decide)) (vAs_w hv_4 (by decide) (by decide))), (congrArg (fun q => wm q r) (by show _ = _; rw [eS_4, SL_X12_shows_4, if_pos c_1, if_pos c_2, if_pos c_5]))⟩
            · skip
              exact absurd c_4 (fun q9 => q9 c_2)
          · skip
            exact absurd c_3 (fun q9 => q9 c_2)
        · skip
          refine v_iconst (v := 0) (pc := 45) C dX12_shows_45 rfl ?_
          refine v_goto (tgt := 50) (pc := 46) C dX12_shows_46 (by decide) ?_
          refine v_iadd (pc := 50) C dX12_shows_50 ?_
          refine v_put (pc := 51) C (40, 0) (v := .int (((g 7 0 0) + 0))) ck_40 rfl 31 (by decide) inX12 tyX12 tyX12_ok nmX12 wd_1419 rfl (.inl (Value.int (((g 7 0 0) + 0)))) rfl (ty := tyX12 31) (by decide +kernel) rfl rfl (Nat.le_of_ble_eq_true rfl) dX12_shows_51 ?_
          refine v_h (h2 := (wm (s3 g 7 0 0 (((g 7 0 0) + 0))) r)) (u_40_31) ?_
          refine v_aload_n (pc := 54) C dX12_shows_54 2 rfl rfl ?_
          refine v_dup (pc := 55) C dX12_shows_55 rfl ?_
          refine v_get (pc := 56) C (40, 0) (v := .int ((g 8 0 0))) ck_40 rfl 32 (by decide) inX12 wd_1420 rfl rfl dX12_shows_56 ?_
          refine v_iload_n (pc := 59) C dX12_shows_59 1 rfl rfl ?_
          refine v_if_eq (pc := 60) (tgt := 67) C dX12_shows_60 (by decide) (fun c_6 => ?_) (fun c_6 => ?_)
          · skip
            exact absurd c_6 c_2
          · skip
            refine v_iconst (v := 1) (pc := 63) C dX12_shows_63 rfl ?_
            refine v_goto (tgt := 68) (pc := 64) C dX12_shows_64 (by decide) ?_
            refine v_iadd (pc := 68) C dX12_shows_68 ?_
            refine v_put (pc := 69) C (40, 0) (v := .int (((g 8 0 0) + 1))) ck_40 rfl 32 (by decide) inX12 tyX12 tyX12_ok nmX12 wd_1420 rfl (.inl (Value.int (((g 8 0 0) + 1)))) rfl (ty := tyX12 32) (by decide +kernel) rfl rfl (Nat.le_of_ble_eq_true rfl) dX12_shows_69 ?_
            refine v_h (h2 := (wm (s3 (s3 g 7 0 0 (((g 7 0 0) + 0))) 8 0 0 (((g 8 0 0) + 1))) r)) (u_40_32) ?_
            refine v_iload_n (pc := 72) C dX12_shows_72 1 rfl rfl ?_
            refine v_if_eq (pc := 73) (tgt := 77) C dX12_shows_73 (by decide) (fun c_7 => ?_) (fun c_7 => ?_)
            · skip
              exact absurd c_7 c_2
            · skip
              exact v_vret (pc := 76) C (Nat.zero_le _) (Nat.zero_le _) dX12_shows_76 ⟨rfl, (vAs_w hv_4 (by decide) (by decide)), (congrArg (fun q => wm q r) (by show _ = _; rw [eS_4, SL_X12_shows_4, if_pos c_1, if_neg c_2]))⟩
      · skip
        refine v_iload_n (pc := 12) C dX12_shows_12 1 rfl rfl ?_
        refine v_aload_n (pc := 13) C dX12_shows_13 2 rfl rfl ?_
        refine v_get (pc := 14) C (40, 0) (v := .ref (AL_4 (71, 0))) ck_40 rfl 27 (by decide) inX12 wd_1415 rfl rfl dX12_shows_14 ?_
        refine v_iload_n (pc := 17) C dX12_shows_17 0 rfl rfl ?_
        refine v_iald (pc := 18) C (71, 0) (v := (g 71 i_4 0)) ck_71 (by (try simp only [Int32.le_iff_toInt_le, Int32.lt_iff_toInt_lt, ← Int32.toInt_inj, vp_in_iff, Int32.reduceToInt] at c_1 hq_4 hr_4 hu hg hf ⊢) <;> omega) ((congrArg (fun k => g 71 k 0) (show (nI i_4 : Int32).toNatClampNeg = i_4 from (nI_clamp (by omega)))).trans rfl) dX12_shows_18 ?_
        refine v_iload_n (pc := 19) C dX12_shows_19 3 rfl rfl ?_
        refine v_icmp_ne (pc := 20) (tgt := 27) C dX12_shows_20 (by decide) (fun c_8 => ?_) (fun c_8 => ?_)
        · skip
          refine v_iconst (v := 0) (pc := 27) C dX12_shows_27 rfl ?_
          refine v_ior (pc := 28) C dX12_shows_28 ?_
          refine v_istore_n (lv2 := [(2, .int ((x_4_2 ||| 0))), (3, .int (nI i_4)), (0, .ref (AL_4 (40, 0))), (1, .int (x))]) (pc := 29) C dX12_shows_29 rfl (by decide) rfl ?_
          refine v_iinc (v := nI (i_4 + 1)) (lv2 := [(3, .int (nI (i_4 + 1))), (2, .int ((x_4_2 ||| 0))), (0, .ref (AL_4 (40, 0))), (1, .int (x))]) (pc := 30) C dX12_shows_30 1 rfl (nI_1 _) (by decide) rfl ?_
          refine v_goto (tgt := 4) (pc := 33) C dX12_shows_33 (by decide) ?_
          refine v_lv (lv2 := [(3, .int (nI (i_4 + 1))), (2, .int ((x_4_2 ||| 0))), (0, .ref (AL_4 (40, 0))), (1, .int (x))]) [0, 1, 2, 3] rfl ?_
          exact ih AL_4 (i_4 + 1) ((x_4_2 ||| 0)) (by (try simp only [Int32.le_iff_toInt_le, Int32.lt_iff_toInt_lt, ← Int32.toInt_inj, vp_in_iff, Int32.reduceToInt] at c_1 c_8 hq_4 hr_4 hu hg hf ⊢) <;> omega) (by omega)  (vAs_w hv_4 (by decide) (by decide)) (or_bit0 hz_4) (by rw [eS_4, SL_X12_shows_4, if_neg c_1, if_neg c_8])
        · skip
          refine v_iconst (v := 1) (pc := 23) C dX12_shows_23 rfl ?_
          refine v_goto (tgt := 28) (pc := 24) C dX12_shows_24 (by decide) ?_
          refine v_ior (pc := 28) C dX12_shows_28 ?_
          refine v_istore_n (lv2 := [(2, .int ((x_4_2 ||| 1))), (3, .int (nI i_4)), (0, .ref (AL_4 (40, 0))), (1, .int (x))]) (pc := 29) C dX12_shows_29 rfl (by decide) rfl ?_
          refine v_iinc (v := nI (i_4 + 1)) (lv2 := [(3, .int (nI (i_4 + 1))), (2, .int ((x_4_2 ||| 1))), (0, .ref (AL_4 (40, 0))), (1, .int (x))]) (pc := 30) C dX12_shows_30 1 rfl (nI_1 _) (by decide) rfl ?_
          refine v_goto (tgt := 4) (pc := 33) C dX12_shows_33 (by decide) ?_
          refine v_lv (lv2 := [(3, .int (nI (i_4 + 1))), (2, .int ((x_4_2 ||| 1))), (0, .ref (AL_4 (40, 0))), (1, .int (x))]) [0, 1, 2, 3] rfl ?_
          exact ih AL_4 (i_4 + 1) ((x_4_2 ||| 1)) (by (try simp only [Int32.le_iff_toInt_le, Int32.lt_iff_toInt_lt, ← Int32.toInt_inj, vp_in_iff, Int32.reduceToInt] at c_1 c_8 hq_4 hr_4 hu hg hf ⊢) <;> omega) (by omega)  (vAs_w hv_4 (by decide) (by decide)) (or_bit1 hz_4) (by rw [eS_4, SL_X12_shows_4, if_neg c_1, if_pos c_8])
  exact L_4 (65536 + 1) A 0 (0) (by omega) (by omega)  vAs_r (Or.inl rfl) (by rw [S_X12_shows])
def VL_X12_ask_172 (g : vS) (u : Int32) (x : Int32) (z : Int32) : Nat → Nat → Int32 → vS → Int32
  | 0, _, _, _ => 0
  | n + 1, i_172, x_172_4, q_172 => (if 20 ≤ nI i_172 then x_172_4 else (if (q_172 72 i_172 0) = 0 then (VL_X12_ask_172 g u x z n (i_172 + 1) ((x_172_4 + 0)) q_172) else (VL_X12_ask_172 g u x z n (i_172 + 1) ((x_172_4 + 1)) q_172)))
def SL_X12_ask_172 (g : vS) (u : Int32) (x : Int32) (z : Int32) : Nat → Nat → Int32 → vS → vS
  | 0, _, _, q9 => q9
  | n + 1, i_172, x_172_4, q_172 => (if 20 ≤ nI i_172 then (s3 (s3 q_172 9 0 0 (((g 9 0 0) + x_172_4))) 10 0 0 (((g 10 0 0) + 1))) else (if (q_172 72 i_172 0) = 0 then (SL_X12_ask_172 g u x z n (i_172 + 1) ((x_172_4 + 0)) q_172) else (SL_X12_ask_172 g u x z n (i_172 + 1) ((x_172_4 + 1)) q_172)))
def VL_X12_ask_113 (g : vS) (u : Int32) (x : Int32) (z : Int32) (i_84 : Nat) (q_84 : vS) (K : Nat → vS → Int32) : Nat → Nat → vS → Int32
  | 0, _, _ => 0
  | n + 1, i_113, q_113 => (if (g 5 0 0) ≤ nI i_113 then (K (i_84 + 1) q_113) else (if (g 69 i_113 0) = (V_X12_token q_84 (x) (nI i_84) (z)) then (VL_X12_ask_113 g u x z i_84 q_84 K n (i_113 + 1) (s3 q_113 72 ((g 70 i_113 0)).toNatClampNeg 0 (((q_113 72 ((g 70 i_113 0)).toNatClampNeg 0) ||| 1)))) else (VL_X12_ask_113 g u x z i_84 q_84 K n (i_113 + 1) (s3 q_113 72 ((g 70 i_113 0)).toNatClampNeg 0 (((q_113 72 ((g 70 i_113 0)).toNatClampNeg 0) ||| 0))))))
def SL_X12_ask_113 (g : vS) (u : Int32) (x : Int32) (z : Int32) (i_84 : Nat) (q_84 : vS) (K : Nat → vS → vS) : Nat → Nat → vS → vS
  | 0, _, q9 => q9
  | n + 1, i_113, q_113 => (if (g 5 0 0) ≤ nI i_113 then (K (i_84 + 1) q_113) else (if (g 69 i_113 0) = (V_X12_token q_84 (x) (nI i_84) (z)) then (SL_X12_ask_113 g u x z i_84 q_84 K n (i_113 + 1) (s3 q_113 72 ((g 70 i_113 0)).toNatClampNeg 0 (((q_113 72 ((g 70 i_113 0)).toNatClampNeg 0) ||| 1)))) else (SL_X12_ask_113 g u x z i_84 q_84 K n (i_113 + 1) (s3 q_113 72 ((g 70 i_113 0)).toNatClampNeg 0 (((q_113 72 ((g 70 i_113 0)).toNatClampNeg 0) ||| 0))))))
def VL_X12_ask_84 (g : vS) (u : Int32) (x : Int32) (z : Int32) : Nat → Nat → vS → Int32
  | 0, _, _ => 0
  | n + 1, i_84, q_84 => (if (V_X12_latest q_84 (x) (u)) < nI i_84 then (VL_X12_ask_172 g u x z (20 + 1) 0 (0) q_84) else (VL_X12_ask_113 g u x z i_84 q_84 (VL_X12_ask_84 g u x z n) (60 + 1) 0 (S_X12_shows q_84 ((V_X12_token q_84 (x) (nI i_84) (z))))))
def SL_X12_ask_84 (g : vS) (u : Int32) (x : Int32) (z : Int32) : Nat → Nat → vS → vS
  | 0, _, q9 => q9
  | n + 1, i_84, q_84 => (if (V_X12_latest q_84 (x) (u)) < nI i_84 then (SL_X12_ask_172 g u x z (20 + 1) 0 (0) q_84) else (SL_X12_ask_113 g u x z i_84 q_84 (SL_X12_ask_84 g u x z n) (60 + 1) 0 (S_X12_shows q_84 ((V_X12_token q_84 (x) (nI i_84) (z))))))
def VL_X12_ask_60 (g : vS) (u : Int32) (x : Int32) (z : Int32) : Nat → Nat → vS → Int32
  | 0, _, _ => 0
  | n + 1, i_60, q_60 => (if 20 ≤ nI i_60 then (VL_X12_ask_84 g u x z (1000 + 1) 0 q_60) else (VL_X12_ask_60 g u x z n (i_60 + 1) (s3 q_60 72 i_60 0 (0))))
def SL_X12_ask_60 (g : vS) (u : Int32) (x : Int32) (z : Int32) : Nat → Nat → vS → vS
  | 0, _, q9 => q9
  | n + 1, i_60, q_60 => (if 20 ≤ nI i_60 then (SL_X12_ask_84 g u x z (1000 + 1) 0 q_60) else (SL_X12_ask_60 g u x z n (i_60 + 1) (s3 q_60 72 i_60 0 (0))))
def V_X12_ask (g : vS) (u : Int32) (x : Int32) (z : Int32) : Int32 := (if (V_X12_isUser g (u)) = 0 then 0 else (if (V_X12_isGroup g (x)) = 0 then 0 else (if (V_X12_isBetween g (z) (0) (99)) = 0 then 0 else (if 0 ≤ (V_X12_latest g (x) (u)) then (VL_X12_ask_60 g u x z (20 + 1) 0 (S_X12_isWrong g (0))) else 0))))
def S_X12_ask (g : vS) (u : Int32) (x : Int32) (z : Int32) : vS := (if (V_X12_isUser g (u)) = 0 then (S_X12_isWrong g (1)) else (if (V_X12_isGroup g (x)) = 0 then (S_X12_isWrong g (1)) else (if (V_X12_isBetween g (z) (0) (99)) = 0 then (S_X12_isWrong g (2)) else (if 0 ≤ (V_X12_latest g (x) (u)) then (SL_X12_ask_60 g u x z (20 + 1) 0 (S_X12_isWrong g (0))) else (S_X12_isWrong g (3))))))
theorem FL_X12_ask_172 {g : vS} {u : Int32} {x : Int32} {z : Int32} {c i j : Nat} (h1 : c ≠ 1) (h6 : c ≠ 6) (h7 : c ≠ 7) (h8 : c ≠ 8) (h9 : c ≠ 9) (h10 : c ≠ 10) (h14 : c ≠ 14) (h71 : c ≠ 71) (h72 : c ≠ 72) : ∀ (n : Nat) (a0 : Nat) (a1 : Int32) (a2 : vS), a2 c i j = g c i j → SL_X12_ask_172 g u x z n a0 a1 a2 c i j = g c i j := by
  intro n
  induction n with
  | zero => intro a0 a1 a2 hq9; exact hq9
  | succ n ih =>
    intro a0 a1 a2 hq9
    simp only [SL_X12_ask_172]
    (repeat' split) <;> first | rfl | exact hq9 | (apply ih; first | exact hq9 | rfl | trivial | ((simp only [s3_k h1, s3_k h6, s3_k h7, s3_k h8, s3_k h9, s3_k h10, s3_k h14, s3_k h71, s3_k h72, F_X12_isWrong h1, F_X12_shows h6 h7 h8 h14 h71]) <;> first | done | exact hq9 | rfl)) | ((simp only [s3_k h1, s3_k h6, s3_k h7, s3_k h8, s3_k h9, s3_k h10, s3_k h14, s3_k h71, s3_k h72, F_X12_isWrong h1, F_X12_shows h6 h7 h8 h14 h71]) <;> first | done | exact hq9 | rfl)
theorem FL_X12_ask_113 {g : vS} {u : Int32} {x : Int32} {z : Int32} {i_84 : Nat} {q_84 : vS} {K : Nat → vS → vS} {c i j : Nat} (h1 : c ≠ 1) (h6 : c ≠ 6) (h7 : c ≠ 7) (h8 : c ≠ 8) (h9 : c ≠ 9) (h10 : c ≠ 10) (h14 : c ≠ 14) (h71 : c ≠ 71) (h72 : c ≠ 72) (hK : ∀ (b0 : Nat) (b1 : vS), b1 c i j = g c i j → K b0 b1 c i j = g c i j) : ∀ (n : Nat) (a0 : Nat) (a1 : vS), a1 c i j = g c i j → SL_X12_ask_113 g u x z i_84 q_84 K n a0 a1 c i j = g c i j := by
  intro n
  induction n with
  | zero => intro a0 a1 hq9; exact hq9
  | succ n ih =>
    intro a0 a1 hq9
    simp only [SL_X12_ask_113]
    (repeat' split) <;> first | rfl | exact hq9 | (apply ih; first | exact hq9 | rfl | trivial | ((simp only [s3_k h1, s3_k h6, s3_k h7, s3_k h8, s3_k h9, s3_k h10, s3_k h14, s3_k h71, s3_k h72, F_X12_isWrong h1, F_X12_shows h6 h7 h8 h14 h71]) <;> first | done | exact hq9 | rfl)) | (apply hK; first | exact hq9 | rfl | ((try simp only [s3_k h1, s3_k h6, s3_k h7, s3_k h8, s3_k h9, s3_k h10, s3_k h14, s3_k h71, s3_k h72, F_X12_isWrong h1, F_X12_shows h6 h7 h8 h14 h71]) <;> first | exact hq9 | rfl)) | ((simp only [s3_k h1, s3_k h6, s3_k h7, s3_k h8, s3_k h9, s3_k h10, s3_k h14, s3_k h71, s3_k h72, F_X12_isWrong h1, F_X12_shows h6 h7 h8 h14 h71]) <;> first | done | exact hq9 | rfl)
theorem FL_X12_ask_84 {g : vS} {u : Int32} {x : Int32} {z : Int32} {c i j : Nat} (h1 : c ≠ 1) (h6 : c ≠ 6) (h7 : c ≠ 7) (h8 : c ≠ 8) (h9 : c ≠ 9) (h10 : c ≠ 10) (h14 : c ≠ 14) (h71 : c ≠ 71) (h72 : c ≠ 72) : ∀ (n : Nat) (a0 : Nat) (a1 : vS), a1 c i j = g c i j → SL_X12_ask_84 g u x z n a0 a1 c i j = g c i j := by
  intro n
  induction n with
  | zero => intro a0 a1 hq9; exact hq9
  | succ n ih =>
    intro a0 a1 hq9
    simp only [SL_X12_ask_84]
    (repeat' split) <;> first | rfl | exact hq9 | (apply ih; first | exact hq9 | rfl | trivial | ((simp only [s3_k h1, s3_k h6, s3_k h7, s3_k h8, s3_k h9, s3_k h10, s3_k h14, s3_k h71, s3_k h72, F_X12_isWrong h1, F_X12_shows h6 h7 h8 h14 h71]) <;> first | done | exact hq9 | rfl)) | (apply FL_X12_ask_172 h1 h6 h7 h8 h9 h10 h14 h71 h72; first | exact hq9 | rfl | ((try simp only [s3_k h1, s3_k h6, s3_k h7, s3_k h8, s3_k h9, s3_k h10, s3_k h14, s3_k h71, s3_k h72, F_X12_isWrong h1, F_X12_shows h6 h7 h8 h14 h71]) <;> first | exact hq9 | rfl)) | (apply FL_X12_ask_113 h1 h6 h7 h8 h9 h10 h14 h71 h72 (fun b0 b1 h9 => ih b0 b1 h9); first | exact hq9 | rfl | ((try simp only [s3_k h1, s3_k h6, s3_k h7, s3_k h8, s3_k h9, s3_k h10, s3_k h14, s3_k h71, s3_k h72, F_X12_isWrong h1, F_X12_shows h6 h7 h8 h14 h71]) <;> first | exact hq9 | rfl)) | ((simp only [s3_k h1, s3_k h6, s3_k h7, s3_k h8, s3_k h9, s3_k h10, s3_k h14, s3_k h71, s3_k h72, F_X12_isWrong h1, F_X12_shows h6 h7 h8 h14 h71]) <;> first | done | exact hq9 | rfl)
theorem FL_X12_ask_60 {g : vS} {u : Int32} {x : Int32} {z : Int32} {c i j : Nat} (h1 : c ≠ 1) (h6 : c ≠ 6) (h7 : c ≠ 7) (h8 : c ≠ 8) (h9 : c ≠ 9) (h10 : c ≠ 10) (h14 : c ≠ 14) (h71 : c ≠ 71) (h72 : c ≠ 72) : ∀ (n : Nat) (a0 : Nat) (a1 : vS), a1 c i j = g c i j → SL_X12_ask_60 g u x z n a0 a1 c i j = g c i j := by
  intro n
  induction n with
  | zero => intro a0 a1 hq9; exact hq9
  | succ n ih =>
    intro a0 a1 hq9
    simp only [SL_X12_ask_60]
    (repeat' split) <;> first | rfl | exact hq9 | (apply ih; first | exact hq9 | rfl | trivial | ((simp only [s3_k h1, s3_k h6, s3_k h7, s3_k h8, s3_k h9, s3_k h10, s3_k h14, s3_k h71, s3_k h72, F_X12_isWrong h1, F_X12_shows h6 h7 h8 h14 h71]) <;> first | done | exact hq9 | rfl)) | (apply FL_X12_ask_172 h1 h6 h7 h8 h9 h10 h14 h71 h72; first | exact hq9 | rfl | ((try simp only [s3_k h1, s3_k h6, s3_k h7, s3_k h8, s3_k h9, s3_k h10, s3_k h14, s3_k h71, s3_k h72, F_X12_isWrong h1, F_X12_shows h6 h7 h8 h14 h71]) <;> first | exact hq9 | rfl)) | (apply FL_X12_ask_113 h1 h6 h7 h8 h9 h10 h14 h71 h72; first | exact hq9 | rfl | ((try simp only [s3_k h1, s3_k h6, s3_k h7, s3_k h8, s3_k h9, s3_k h10, s3_k h14, s3_k h71, s3_k h72, F_X12_isWrong h1, F_X12_shows h6 h7 h8 h14 h71]) <;> first | exact hq9 | rfl)) | (apply FL_X12_ask_84 h1 h6 h7 h8 h9 h10 h14 h71 h72; first | exact hq9 | rfl | ((try simp only [s3_k h1, s3_k h6, s3_k h7, s3_k h8, s3_k h9, s3_k h10, s3_k h14, s3_k h71, s3_k h72, F_X12_isWrong h1, F_X12_shows h6 h7 h8 h14 h71]) <;> first | exact hq9 | rfl)) | ((simp only [s3_k h1, s3_k h6, s3_k h7, s3_k h8, s3_k h9, s3_k h10, s3_k h14, s3_k h71, s3_k h72, F_X12_isWrong h1, F_X12_shows h6 h7 h8 h14 h71]) <;> first | done | exact hq9 | rfl)
theorem F_X12_ask {g : vS} {u : Int32} {x : Int32} {z : Int32} {c i j : Nat} (h1 : c ≠ 1) (h6 : c ≠ 6) (h7 : c ≠ 7) (h8 : c ≠ 8) (h9 : c ≠ 9) (h10 : c ≠ 10) (h14 : c ≠ 14) (h71 : c ≠ 71) (h72 : c ≠ 72) : S_X12_ask g u x z c i j = g c i j := by
  unfold S_X12_ask
  (repeat' split) <;> first | rfl | (apply FL_X12_ask_172 h1 h6 h7 h8 h9 h10 h14 h71 h72; first | rfl | trivial | ((simp only [s3_k h1, s3_k h6, s3_k h7, s3_k h8, s3_k h9, s3_k h10, s3_k h14, s3_k h71, s3_k h72, F_X12_isWrong h1, F_X12_shows h6 h7 h8 h14 h71]) <;> first | done | rfl)) | (apply FL_X12_ask_113 h1 h6 h7 h8 h9 h10 h14 h71 h72; first | rfl | trivial | ((simp only [s3_k h1, s3_k h6, s3_k h7, s3_k h8, s3_k h9, s3_k h10, s3_k h14, s3_k h71, s3_k h72, F_X12_isWrong h1, F_X12_shows h6 h7 h8 h14 h71]) <;> first | done | rfl)) | (apply FL_X12_ask_84 h1 h6 h7 h8 h9 h10 h14 h71 h72; first | rfl | trivial | ((simp only [s3_k h1, s3_k h6, s3_k h7, s3_k h8, s3_k h9, s3_k h10, s3_k h14, s3_k h71, s3_k h72, F_X12_isWrong h1, F_X12_shows h6 h7 h8 h14 h71]) <;> first | done | rfl)) | (apply FL_X12_ask_60 h1 h6 h7 h8 h9 h10 h14 h71 h72; first | rfl | trivial | ((simp only [s3_k h1, s3_k h6, s3_k h7, s3_k h8, s3_k h9, s3_k h10, s3_k h14, s3_k h71, s3_k h72, F_X12_isWrong h1, F_X12_shows h6 h7 h8 h14 h71]) <;> first | done | rfl)) | ((simp only [s3_k h1, s3_k h6, s3_k h7, s3_k h8, s3_k h9, s3_k h10, s3_k h14, s3_k h71, s3_k h72, F_X12_isWrong h1, F_X12_shows h6 h7 h8 h14 h71]) <;> first | done | rfl)

theorem SL172_14 {g : vS} {u x z : Int32} : ∀ (n i : Nat) (y : Int32) (q : vS), vPw (SL_X12_ask_172 g u x z n i y q) = vPw q := by
  intro n
  induction n with
  | zero => intro i y q; rfl
  | succ n ih =>
    intro i y q
    simp only [SL_X12_ask_172]
    (repeat' split) <;> first
      | exact vPw_k (fun i j => (s3_k (by decide)).trans (s3_k (by decide)))
      | exact ih _ _ _
theorem mono_ask2 {C E : Nat} {g : vS} {u x z : Int32} {i0 : Nat} {q0 : vS} {K : Nat → vS → vS} (hK : ∀ q : vS, vM10 C q → vM11 E q → vPw q ≤ vPw (K (i0 + 1) q)) : ∀ (n i : Nat) (q : vS), vM10 C q → vM11 E q → vPw q ≤ vPw (SL_X12_ask_113 g u x z i0 q0 K n i q) := by
  intro n
  induction n with
  | zero => intro i q h h11; exact Nat.le_refl _
  | succ n ih =>
    intro i q h h11
    have Ky : ∀ (a : Int32) (k j : Nat), vPw q ≤ vPw (SL_X12_ask_113 g u x z i0 q0 K n k (s3 q 72 j 0 a)) := fun a k j => Nat.le_trans (Nat.le_of_eq (vPw_k (fun i j => s3_k (by decide))).symm) (ih k _ (vM10_k (fun i j => s3_k (by decide)) (fun i j => s3_k (by decide)) h) (vM11_k (fun i j => s3_k (by decide)) (fun i j => s3_k (by decide)) h11))
    simp only [SL_X12_ask_113]
    split
    · exact hK _ h h11
    · split
      · exact Ky _ _ _
      · exact Ky _ _ _
theorem mono_ask {D E : Nat} {g : vS} {u x z : Int32} (hD : D ≤ 40000) (hE : E ≤ 600) : ∀ (n i : Nat) (q : vS), i ≤ 1000 → vM10 (D + i) q → vM11 E q → vPw q ≤ vPw (SL_X12_ask_84 g u x z n i q) := by
  intro n
  induction n with
  | zero => intro i q hi h h11; exact Nat.le_refl _
  | succ n ih =>
    intro i q hi h h11
    have a := ok_latest (x := x) (u := u) h11
    simp only [SL_X12_ask_84]
    by_cases c : (V_X12_latest q x u) < nI i
    · rw [if_pos c]
      exact Nat.le_of_eq (SL172_14 _ _ _ _).symm
    · rw [if_neg c]
      rw [Int32.lt_iff_toInt_lt, nI_toInt (by omega)] at c
      have T : ∀ t : Int32, vPw q ≤ vPw (SL_X12_ask_113 g u x z i q (SL_X12_ask_84 g u x z n) (60 + 1) 0 (S_X12_shows q t)) := fun t => by
        have m := M10_shows (x := t) h (by omega)
        exact Nat.le_trans m.2 (mono_ask2 (C := D + i + 1) (E := E) (fun q' k k11 => ih (i + 1) q' (by omega) k k11) _ _ _ m.1 (vM11_k (fun i j => F_X12_shows (by decide) (by decide) (by decide) (by decide) (by decide)) (fun i j => F_X12_shows (by decide) (by decide) (by decide) (by decide) (by decide)) h11))
      exact T _

set_option maxHeartbeats 4000000 in
set_option maxRecDepth 100000 in
theorem c_X12_ask {G : vG} (hG : G.1.stackTraces = false) {A : vN → Nat} {g : vS} {r : vH} (u : Int32) (x : Int32) (z : Int32) (hu0 : 0 ≤ (g 2 0 0).toInt) (hu : (g 2 0 0).toInt ≤ 6) (hg0 : 0 ≤ (g 3 0 0).toInt) (hg : (g 3 0 0).toInt ≤ 5) (hf0 : 0 ≤ (g 4 0 0).toInt) (hf : (g 4 0 0).toInt ≤ 20) (D : Nat) (h10 : vM10 D g) (hD : D ≤ 40000) (hr : vNq r) (E : Nat) (h11 : vM11 E g) (hE : E ≤ 600) (h12 : vM12 g) (h13 : vM13 g) (hw0 : 0 ≤ (g 5 0 0).toInt) (hw : (g 5 0 0).toInt ≤ 60) : vCt G yX12_ask cX12_ask 7 (some .int) 3 [.ref (A (40, 0)), .int (u), .int (x), .int (z)] A (wm g r) (fun v A2 h2 => v = some (.int (V_X12_ask g u x z)) ∧ vAs 71 71 A2 A ∧ h2 = wm (S_X12_ask g u x z) r) (vNoX) (vPw (S_X12_ask g u x z) - vPw g) (2 * (vPw (S_X12_ask g u x z) - vPw g)) := by
  refine v_of hG (by decide +kernel) (Nat.le_of_ble_eq_true rfl) (lv := [(0, .ref (A (40, 0))), (1, .int (u)), (2, .int (x)), (3, .int (z))]) rfl (fun X C hnx => ?_)
  have C : vC G X cX12_ask 7 RX12 (some .int) "ask" 3 (vPw (S_X12_ask g u x z) - vPw g) (2 * (vPw (S_X12_ask g u x z) - vPw g)) := C
  refine v_aload_n (pc := 0) C dX12_ask_0 0 rfl rfl ?_
  refine v_aload_n (pc := 1) C dX12_ask_1 0 rfl rfl ?_
  refine v_iload_n (pc := 2) C dX12_ask_2 1 rfl rfl ?_
  refine v_callV (pc := 3) C (40, 0) ck_40 rfl (c_X12_isUser hG (g := g) (u) ) 1 wd_1539 wd_68 wd_1536 wd_1538 wd_36 (by decide +kernel) (by decide) (by decide) rfl ([.ref (A (40, 0))]) rfl (Nat.le_of_ble_eq_true rfl) ⟨Nat.zero_le _, Nat.zero_le _⟩ dX12_ask_3 (fun _ _ _ q => q.elim) (fun v9 A9 h9 hR9 => ?_)
  obtain ⟨rfl, hA9, rfl⟩ := hR9
  obtain rfl := hA9.symm
  refine v_st (k2 := 0) (n2 := 0) (st2 := [.int ((V_X12_isUser g (u))), .ref (A (40, 0))]) rfl rfl rfl ?_
  have b_1 := ok_isUser (g := g) (x := u) hu0
  refine v_if_eq (pc := 6) (tgt := 17) C dX12_ask_6 (by decide) (fun c_2 => ?_) (fun c_2 => ?_)
  · skip
    refine v_iconst (v := 1) (pc := 17) C dX12_ask_17 rfl ?_
    refine v_goto (tgt := 49) (pc := 18) C dX12_ask_18 (by decide) ?_
    refine v_callV (pc := 49) C (40, 0) ck_40 rfl (c_X12_isWrong hG (g := g) (1) ) 1 wd_1531 wd_68 wd_1528 wd_1530 wd_35 (by decide +kernel) (by decide) (by decide) rfl ([]) rfl (Nat.le_of_ble_eq_true rfl) ⟨Nat.zero_le _, Nat.zero_le _⟩ dX12_ask_49 (fun _ _ _ q => q.elim) (fun v9 A9 h9 hR9 => ?_)
    obtain ⟨rfl, hA9, rfl⟩ := hR9
    obtain rfl := hA9.symm
    refine v_st (k2 := 0) (n2 := 0) (st2 := [.int ((V_X12_isWrong g (1)))]) rfl rfl rfl ?_
    refine v_if_eq (pc := 52) (tgt := 57) C dX12_ask_52 (by decide) (fun c_3 => ?_) (fun c_3 => ?_)
    · skip
      exact absurd c_3 (fun q9 => ((show ¬ (1 : Int32) = 0 from by decide)) q9)
    · skip
      refine v_iconst (v := 0) (pc := 55) C dX12_ask_55 rfl ?_
      exact v_iret (pc := 56) C (Nat.zero_le _) (Nat.zero_le _) dX12_ask_56 ⟨(congrArg (fun q => some (Value.int q)) (by show _ = _; rw [V_X12_ask, if_pos c_2])), vAs_r, (congrArg (fun q => wm q r) (by show _ = _; rw [S_X12_ask, if_pos c_2]))⟩
  · skip
    refine v_aload_n (pc := 9) C dX12_ask_9 0 rfl rfl ?_
    refine v_iload_n (pc := 10) C dX12_ask_10 2 rfl rfl ?_
    refine v_callV (pc := 11) C (40, 0) ck_40 rfl (c_X12_isGroup hG (g := g) (x) ) 1 wd_1547 wd_68 wd_1544 wd_1546 wd_37 (by decide +kernel) (by decide) (by decide) rfl ([.ref (A (40, 0))]) rfl (Nat.le_of_ble_eq_true rfl) ⟨Nat.zero_le _, Nat.zero_le _⟩ dX12_ask_11 (fun _ _ _ q => q.elim) (fun v9 A9 h9 hR9 => ?_)
    obtain ⟨rfl, hA9, rfl⟩ := hR9
    obtain rfl := hA9.symm
    refine v_st (k2 := 0) (n2 := 0) (st2 := [.int ((V_X12_isGroup g (x))), .ref (A (40, 0))]) rfl rfl rfl ?_
    have b_4 := ok_isGroup (g := g) (x := x) hg0
    refine v_if_ne (pc := 14) (tgt := 21) C dX12_ask_14 (by decide) (fun c_5 => ?_) (fun c_5 => ?_)
    · skip
      refine v_iload_n (pc := 21) C dX12_ask_21 3 rfl rfl ?_
      refine v_iconst (v := 0) (pc := 22) C dX12_ask_22 rfl ?_
      refine v_bipush (v := 99) (pc := 23) C dX12_ask_23 (by decide) ?_
      refine v_callS (pc := 25) C (c_X12_isBetween hG (g := g) (z) (0) (99) ) 3 wd_1527 wd_68 wd_1525 wd_1526 (by decide +kernel) (by decide) (by decide) rfl ([.ref (A (40, 0))]) rfl (Nat.le_of_ble_eq_true rfl) ⟨Nat.zero_le _, Nat.zero_le _⟩ dX12_ask_25 (fun _ _ _ q => q.elim) (fun v9 A9 h9 hR9 => ?_)
      obtain ⟨rfl, hA9, rfl⟩ := hR9
      obtain rfl := hA9.symm
      refine v_st (k2 := 0) (n2 := 0) (st2 := [.int ((V_X12_isBetween g (z) (0) (99))), .ref (A (40, 0))]) rfl rfl rfl ?_
      have b_6 := ok_btw (g := g) (x := z) (a := 0) (b := 99)
      refine v_if_ne (pc := 28) (tgt := 35) C dX12_ask_28 (by decide) (fun c_7 => ?_) (fun c_7 => ?_)
      · skip
        refine v_aload_n (pc := 35) C dX12_ask_35 0 rfl rfl ?_
        refine v_iload_n (pc := 36) C dX12_ask_36 2 rfl rfl ?_
        refine v_iload_n (pc := 37) C dX12_ask_37 1 rfl rfl ?_
        refine v_callV (pc := 38) C (40, 0) ck_40 rfl (c_X12_latest hG (g := g) (x) (u) hu0 hu hg0 hg hf0 hf (by (try simp only [Int32.le_iff_toInt_le, Int32.lt_iff_toInt_lt, ← Int32.toInt_inj, Int32.reduceToInt] at c_2 c_5 c_7 b_1 b_4 b_6 hu hg hf hw0 hw ⊢); omega) (by (try simp only [Int32.le_iff_toInt_le, Int32.lt_iff_toInt_lt, ← Int32.toInt_inj, Int32.reduceToInt] at c_2 c_5 c_7 b_1 b_4 b_6 hu hg hf hw0 hw ⊢); omega) (by (try simp only [Int32.le_iff_toInt_le, Int32.lt_iff_toInt_lt, ← Int32.toInt_inj, Int32.reduceToInt] at c_2 c_5 c_7 b_1 b_4 b_6 hu hg hf hw0 hw ⊢); omega) (by (try simp only [Int32.le_iff_toInt_le, Int32.lt_iff_toInt_lt, ← Int32.toInt_inj, Int32.reduceToInt] at c_2 c_5 c_7 b_1 b_4 b_6 hu hg hf hw0 hw ⊢); omega)) 2 wd_1601 wd_68 wd_1598 wd_1600 wd_44 (by decide +kernel) (by decide) (by decide) rfl ([.ref (A (40, 0))]) rfl (Nat.le_of_ble_eq_true rfl) ⟨Nat.zero_le _, Nat.zero_le _⟩ dX12_ask_38 (fun _ _ _ q => q.elim) (fun v9 A9 h9 hR9 => ?_)
        obtain ⟨rfl, hA9, rfl⟩ := hR9
        obtain rfl := hA9.symm
        refine v_st (k2 := 0) (n2 := 0) (st2 := [.int ((V_X12_latest g (x) (u))), .ref (A (40, 0))]) rfl rfl rfl ?_
        have b_8 := ok_latest (E := E) (g := g) (x := x) (u := u) h11
        refine v_if_ge (pc := 41) (tgt := 48) C dX12_ask_41 (by decide) (fun c_9 => ?_) (fun c_9 => ?_)
        · skip
          refine v_iconst (v := 0) (pc := 48) C dX12_ask_48 rfl ?_
          refine v_callV (pc := 49) C (40, 0) ck_40 rfl (c_X12_isWrong hG (g := g) (0) ) 1 wd_1531 wd_68 wd_1528 wd_1530 wd_35 (by decide +kernel) (by decide) (by decide) rfl ([]) rfl (Nat.le_of_ble_eq_true rfl) ⟨Nat.zero_le _, Nat.zero_le _⟩ dX12_ask_49 (fun _ _ _ q => q.elim) (fun v9 A9 h9 hR9 => ?_)
          obtain ⟨rfl, hA9, rfl⟩ := hR9
          obtain rfl := hA9.symm
          refine v_st (k2 := 0) (n2 := 0) (st2 := [.int ((V_X12_isWrong g (0)))]) rfl rfl rfl ?_
          refine v_if_eq (pc := 52) (tgt := 57) C dX12_ask_52 (by decide) (fun c_10 => ?_) (fun c_10 => ?_)
          · skip
            refine v_iconst (v := 0) (pc := 57) C dX12_ask_57 rfl ?_
            refine v_istore (lv2 := [(4, .int (0)), (0, .ref (A (40, 0))), (1, .int (u)), (2, .int (x)), (3, .int (z))]) (pc := 58) C dX12_ask_58 (by decide) rfl ?_
            have L_60 : ∀ (n : Nat) (i_60 : Nat) (q_60 : vS), i_60 ≤ 20 → 20 + 1 ≤ i_60 + n → (∀ (c i j : Nat), c ≠ 1 → c ≠ 72 → q_60 c i j = g c i j) → vM10 D q_60 → vM11 E q_60 → vM12 q_60 → vM13 q_60 → (V_X12_ask g u x z) = VL_X12_ask_60 g u x z n i_60 q_60 → (S_X12_ask g u x z) = SL_X12_ask_60 g u x z n i_60 q_60 → V G 7 X A (wm q_60 r) 0 0 (vM G X (fun v A2 h2 => v = some (.int (V_X12_ask g u x z)) ∧ vAs 71 71 A2 A ∧ h2 = wm (S_X12_ask g u x z) r) (vNoX) (vPw (S_X12_ask g u x z) - vPw g) (2 * (vPw (S_X12_ask g u x z) - vPw g))) 60 [(4, .int (nI i_60)), (0, .ref (A (40, 0))), (1, .int (u)), (2, .int (x)), (3, .int (z))] [] := by
              intro n
              induction n with
              | zero => intro i_60 q_60 hi_60 hc_60 hF_60 h10_60 h11_60 h12_60 h13_60 eV_60 eS_60; exact absurd hc_60 (by omega)
              | succ n ih =>
                intro i_60 q_60 hi_60 hc_60 hF_60 h10_60 h11_60 h12_60 h13_60 eV_60 eS_60
                have hq_60 : (nI i_60).toInt = (i_60 : Int) := nI_toInt (by omega)
                have hr_60 : (nI (i_60 + 1)).toInt = ((i_60 + 1 : Nat) : Int) := nI_toInt (by omega)
                refine v_iload (pc := 60) C dX12_ask_60 0 rfl ?_
                refine v_bipush (v := 20) (pc := 62) C dX12_ask_62 (by decide) ?_
                refine v_icmp_ge (pc := 64) (tgt := 81) C dX12_ask_64 (by decide) (fun c_11 => ?_) (fun c_11 => ?_)
                · skip
                  refine v_iconst (v := 0) (pc := 81) C dX12_ask_81 rfl ?_
                  refine v_istore (lv2 := [(4, .int (0)), (0, .ref (A (40, 0))), (1, .int (u)), (2, .int (x)), (3, .int (z))]) (pc := 82) C dX12_ask_82 (by decide) rfl ?_
                  have L_84 : ∀ (n : Nat) (AL_84 : vN → Nat) (i_84 : Nat) (q_84 : vS), i_84 ≤ 1000 → 1000 + 1 ≤ i_84 + n → (∀ (c i j : Nat), c ≠ 1 → c ≠ 6 → c ≠ 7 → c ≠ 8 → c ≠ 14 → c ≠ 71 → c ≠ 72 → q_84 c i j = g c i j) → vAs 71 71 AL_84  A → vPw g ≤ vPw q_84 → vM10 (D + i_84) q_84 → vM11 E q_84 → vM12 q_84 → vM13 q_84 → (V_X12_ask g u x z) = VL_X12_ask_84 g u x z n i_84 q_84 → (S_X12_ask g u x z) = SL_X12_ask_84 g u x z n i_84 q_84 → V G 7 X AL_84 (wm q_84 r) (vPw q_84 - vPw g) (2 * (vPw q_84 - vPw g)) (vM G X (fun v A2 h2 => v = some (.int (V_X12_ask g u x z)) ∧ vAs 71 71 A2 A ∧ h2 = wm (S_X12_ask g u x z) r) (vNoX) (vPw (S_X12_ask g u x z) - vPw g) (2 * (vPw (S_X12_ask g u x z) - vPw g))) 84 [(4, .int (nI i_84)), (0, .ref (AL_84 (40, 0))), (1, .int (u)), (2, .int (x)), (3, .int (z))] [] := by
                    intro n
                    induction n with
                    | zero => intro AL_84 i_84 q_84 hi_84 hc_84 hF_84 hv_84 hp_84 h10_84 h11_84 h12_84 h13_84 eV_84 eS_84; exact absurd hc_84 (by omega)
                    | succ n ih =>
                      intro AL_84 i_84 q_84 hi_84 hc_84 hF_84 hv_84 hp_84 h10_84 h11_84 h12_84 h13_84 eV_84 eS_84
                      have hq_84 : (nI i_84).toInt = (i_84 : Int) := nI_toInt (by omega)
                      have hr_84 : (nI (i_84 + 1)).toInt = ((i_84 + 1 : Nat) : Int) := nI_toInt (by omega)
                      have hpq : vPw q_84 ≤ vPw (S_X12_ask g u x z) := by rw [eS_84]; exact mono_ask hD hE _ _ _ hi_84 h10_84 h11_84
                      refine v_iload (pc := 84) C dX12_ask_84 0 rfl ?_
                      refine v_aload_n (pc := 86) C dX12_ask_86 1 rfl rfl ?_
                      refine v_iload_n (pc := 87) C dX12_ask_87 3 rfl rfl ?_
                      refine v_iload_n (pc := 88) C dX12_ask_88 2 rfl rfl ?_
                      refine v_callV (pc := 89) C (40, 0) ck_40 rfl (c_X12_latest hG (g := q_84) (x) (u) (by rw [show q_84 2 0 0 = g 2 0 0 from hF_84 _ _ _ (by decide) (by decide) (by decide) (by decide) (by decide) (by decide) (by decide)]; exact hu0) (by rw [show q_84 2 0 0 = g 2 0 0 from hF_84 _ _ _ (by decide) (by decide) (by decide) (by decide) (by decide) (by decide) (by decide)]; exact hu) (by rw [show q_84 3 0 0 = g 3 0 0 from hF_84 _ _ _ (by decide) (by decide) (by decide) (by decide) (by decide) (by decide) (by decide)]; exact hg0) (by rw [show q_84 3 0 0 = g 3 0 0 from hF_84 _ _ _ (by decide) (by decide) (by decide) (by decide) (by decide) (by decide) (by decide)]; exact hg) (by rw [show q_84 4 0 0 = g 4 0 0 from hF_84 _ _ _ (by decide) (by decide) (by decide) (by decide) (by decide) (by decide) (by decide)]; exact hf0) (by rw [show q_84 4 0 0 = g 4 0 0 from hF_84 _ _ _ (by decide) (by decide) (by decide) (by decide) (by decide) (by decide) (by decide)]; exact hf) (by (try simp only [Int32.le_iff_toInt_le, Int32.lt_iff_toInt_lt, ← Int32.toInt_inj, Int32.reduceToInt] at c_2 c_5 c_7 c_9 c_10 c_11 b_1 b_4 b_6 b_8 hq_60 hr_60 hq_84 hr_84 hu hg hf hw0 hw ⊢); omega) (by (try simp only [Int32.le_iff_toInt_le, Int32.lt_iff_toInt_lt, ← Int32.toInt_inj, Int32.reduceToInt] at c_2 c_5 c_7 c_9 c_10 c_11 b_1 b_4 b_6 b_8 hq_60 hr_60 hq_84 hr_84 hu hg hf hw0 hw ⊢); omega) (by (try simp only [Int32.le_iff_toInt_le, Int32.lt_iff_toInt_lt, ← Int32.toInt_inj, Int32.reduceToInt] at c_2 c_5 c_7 c_9 c_10 c_11 b_1 b_4 b_6 b_8 hq_60 hr_60 hq_84 hr_84 hu hg hf hw0 hw ⊢); omega) (by (try simp only [Int32.le_iff_toInt_le, Int32.lt_iff_toInt_lt, ← Int32.toInt_inj, Int32.reduceToInt] at c_2 c_5 c_7 c_9 c_10 c_11 b_1 b_4 b_6 b_8 hq_60 hr_60 hq_84 hr_84 hu hg hf hw0 hw ⊢); omega)) 2 wd_1601 wd_68 wd_1598 wd_1600 wd_44 (by decide +kernel) (by decide) (by decide) rfl ([.int (nI i_84)]) rfl (Nat.le_of_ble_eq_true rfl) ⟨by omega, by omega⟩ dX12_ask_89 (fun _ _ _ q => q.elim) (fun v9 A9 h9 hR9 => ?_)
                      obtain ⟨rfl, hA9, rfl⟩ := hR9
                      obtain rfl := hA9.symm
                      refine v_st (k2 := (vPw q_84 - vPw g)) (n2 := (2 * (vPw q_84 - vPw g))) (st2 := [.int ((V_X12_latest q_84 (x) (u))), .int (nI i_84)]) rfl rfl rfl ?_
                      have b_12 := ok_latest (E := E) (g := q_84) (x := x) (u := u) h11_84
                      refine v_icmp_gt (pc := 92) (tgt := 166) C dX12_ask_92 (by decide) (fun c_13 => ?_) (fun c_13 => ?_)
                      · skip
                        refine v_iconst (v := 0) (pc := 166) C dX12_ask_166 rfl ?_
                        refine v_istore (lv2 := [(4, .int (0)), (0, .ref (AL_84 (40, 0))), (1, .int (u)), (2, .int (x)), (3, .int (z))]) (pc := 167) C dX12_ask_167 (by decide) rfl ?_
                        refine v_iconst (v := 0) (pc := 169) C dX12_ask_169 rfl ?_
                        refine v_istore (lv2 := [(5, .int (0)), (4, .int (0)), (0, .ref (AL_84 (40, 0))), (1, .int (u)), (2, .int (x)), (3, .int (z))]) (pc := 170) C dX12_ask_170 (by decide) rfl ?_
                        have L_172 : ∀ (n : Nat) (AL_172 : vN → Nat) (i_172 : Nat) (x_172_4 : Int32) (q_172 : vS), i_172 ≤ 20 → 20 + 1 ≤ i_172 + n → (∀ (c i j : Nat), c ≠ 1 → c ≠ 6 → c ≠ 7 → c ≠ 8 → c ≠ 14 → c ≠ 71 → c ≠ 72 → q_172 c i j = g c i j) → vAs 71 71 AL_172  A → vPw q_172 = vPw q_84 → (V_X12_ask g u x z) = VL_X12_ask_172 g u x z n i_172 x_172_4 q_172 → (S_X12_ask g u x z) = SL_X12_ask_172 g u x z n i_172 x_172_4 q_172 → V G 7 X AL_172 (wm q_172 r) (vPw q_84 - vPw g) (2 * (vPw q_84 - vPw g)) (vM G X (fun v A2 h2 => v = some (.int (V_X12_ask g u x z)) ∧ vAs 71 71 A2 A ∧ h2 = wm (S_X12_ask g u x z) r) (vNoX) (vPw (S_X12_ask g u x z) - vPw g) (2 * (vPw (S_X12_ask g u x z) - vPw g))) 172 [(5, .int (nI i_172)), (4, .int (x_172_4)), (0, .ref (AL_172 (40, 0))), (1, .int (u)), (2, .int (x)), (3, .int (z))] [] := by
                          intro n
                          induction n with
                          | zero => intro AL_172 i_172 x_172_4 q_172 hi_172 hc_172 hF_172 hv_172 hp_172 eV_172 eS_172; exact absurd hc_172 (by omega)
                          | succ n ih =>
                            intro AL_172 i_172 x_172_4 q_172 hi_172 hc_172 hF_172 hv_172 hp_172 eV_172 eS_172
                            have hq_172 : (nI i_172).toInt = (i_172 : Int) := nI_toInt (by omega)
                            have hr_172 : (nI (i_172 + 1)).toInt = ((i_172 + 1 : Nat) : Int) := nI_toInt (by omega)
                            refine v_iload (pc := 172) C dX12_ask_172 0 rfl ?_
                            refine v_bipush (v := 20) (pc := 174) C dX12_ask_174 (by decide) ?_
                            refine v_icmp_ge (pc := 176) (tgt := 205) C dX12_ask_176 (by decide) (fun c_14 => ?_) (fun c_14 => ?_)
                            · skip
                              refine v_aload_n (pc := 205) C dX12_ask_205 2 rfl rfl ?_
                              refine v_dup (pc := 206) C dX12_ask_206 rfl ?_
                              refine v_get (pc := 207) C (40, 0) (v := .int ((g 9 0 0))) ck_40 rfl 33 (by decide) inX12 wd_1421 rfl (congrArg Value.int (hF_172 _ _ _ (by decide) (by decide) (by decide) (by decide) (by decide) (by decide) (by decide))) dX12_ask_207 ?_
                              refine v_iload (pc := 210) C dX12_ask_210 1 rfl ?_
                              refine v_iadd (pc := 212) C dX12_ask_212 ?_
                              refine v_put (pc := 213) C (40, 0) (v := .int (((g 9 0 0) + x_172_4))) ck_40 rfl 33 (by decide) inX12 tyX12 tyX12_ok nmX12 wd_1421 rfl (.inl (Value.int (((g 9 0 0) + x_172_4)))) rfl (ty := tyX12 33) (by decide +kernel) rfl rfl (Nat.le_of_ble_eq_true rfl) dX12_ask_213 ?_
                              refine v_h (h2 := (wm (s3 q_172 9 0 0 (((g 9 0 0) + x_172_4))) r)) (u_40_33) ?_
                              refine v_aload_n (pc := 216) C dX12_ask_216 2 rfl rfl ?_
                              refine v_dup (pc := 217) C dX12_ask_217 rfl ?_
                              refine v_get (pc := 218) C (40, 0) (v := .int ((g 10 0 0))) ck_40 rfl 34 (by decide) inX12 wd_1422 rfl (congrArg Value.int ((s3_k (by decide)).trans (hF_172 _ _ _ (by decide) (by decide) (by decide) (by decide) (by decide) (by decide) (by decide)))) dX12_ask_218 ?_
                              refine v_iconst (v := 1) (pc := 221) C dX12_ask_221 rfl ?_
                              refine v_iadd (pc := 222) C dX12_ask_222 ?_
                              refine v_put (pc := 223) C (40, 0) (v := .int (((g 10 0 0) + 1))) ck_40 rfl 34 (by decide) inX12 tyX12 tyX12_ok nmX12 wd_1422 rfl (.inl (Value.int (((g 10 0 0) + 1)))) rfl (ty := tyX12 34) (by decide +kernel) rfl rfl (Nat.le_of_ble_eq_true rfl) dX12_ask_223 ?_
                              refine v_h (h2 := (wm (s3 (s3 q_172 9 0 0 (((g 9 0 0) + x_172_4))) 10 0 0 (((g 10 0 0) + 1))) r)) (u_40_34) ?_
                              have hpe : vPw (S_X12_ask g u x z) = vPw q_172 := (congrArg vPw (show S_X12_ask g u x z = (s3 (s3 q_172 9 0 0 (((g 9 0 0) + x_172_4))) 10 0 0 (((g 10 0 0) + 1))) from (by rw [eS_172, SL_X12_ask_172, if_pos c_14]))).trans (vPw_k (fun _ _ => (s3_k (by decide)).trans (s3_k (by decide))))
                              refine v_iload (pc := 226) C dX12_ask_226 1 rfl ?_
                              exact v_iret (pc := 228) C (by omega) (by omega) dX12_ask_228 ⟨(congrArg (fun q => some (Value.int q)) (by show _ = _; rw [eV_172, VL_X12_ask_172, if_pos c_14])), (vAs_w hv_172 (by decide) (by decide)), (congrArg (fun q => wm q r) (by show _ = _; rw [eS_172, SL_X12_ask_172, if_pos c_14]))⟩
                            · skip
                              refine v_iload (pc := 179) C dX12_ask_179 1 rfl ?_
                              refine v_aload_n (pc := 181) C dX12_ask_181 2 rfl rfl ?_
                              refine v_get (pc := 182) C (40, 0) (v := .ref (AL_172 (72, 0))) ck_40 rfl 28 (by decide) inX12 wd_1416 rfl rfl dX12_ask_182 ?_
                              refine v_iload (pc := 185) C dX12_ask_185 0 rfl ?_
                              refine v_zald (pc := 187) C (72, 0) (v := (q_172 72 i_172 0)) ck_72 (by (try simp only [Int32.le_iff_toInt_le, Int32.lt_iff_toInt_lt, ← Int32.toInt_inj, vp_in_iff, Int32.reduceToInt] at c_2 c_5 c_7 c_9 c_10 c_11 c_13 c_14 b_1 b_4 b_6 b_8 hq_60 hr_60 hq_84 hr_84 b_12 hq_172 hr_172 hu hg hf hw0 hw ⊢) <;> omega) ((congrArg (fun k => q_172 72 k 0) (show (nI i_172 : Int32).toNatClampNeg = i_172 from (nI_clamp (by omega)))).trans rfl) dX12_ask_187 ?_
                              refine v_if_eq (pc := 188) (tgt := 195) C dX12_ask_188 (by decide) (fun c_15 => ?_) (fun c_15 => ?_)
                              · skip
                                refine v_iconst (v := 0) (pc := 195) C dX12_ask_195 rfl ?_
                                refine v_iadd (pc := 196) C dX12_ask_196 ?_
                                refine v_istore (lv2 := [(4, .int ((x_172_4 + 0))), (5, .int (nI i_172)), (0, .ref (AL_172 (40, 0))), (1, .int (u)), (2, .int (x)), (3, .int (z))]) (pc := 197) C dX12_ask_197 (by decide) rfl ?_
                                refine v_iinc (v := nI (i_172 + 1)) (lv2 := [(5, .int (nI (i_172 + 1))), (4, .int ((x_172_4 + 0))), (0, .ref (AL_172 (40, 0))), (1, .int (u)), (2, .int (x)), (3, .int (z))]) (pc := 199) C dX12_ask_199 1 rfl (nI_1 _) (by decide) rfl ?_
                                refine v_goto (tgt := 172) (pc := 202) C dX12_ask_202 (by decide) ?_
                                refine v_lv (lv2 := [(5, .int (nI (i_172 + 1))), (4, .int ((x_172_4 + 0))), (0, .ref (AL_172 (40, 0))), (1, .int (u)), (2, .int (x)), (3, .int (z))]) [0, 1, 2, 3, 4, 5] rfl ?_
                                exact ih AL_172 (i_172 + 1) ((x_172_4 + 0)) q_172 (by (try simp only [Int32.le_iff_toInt_le, Int32.lt_iff_toInt_lt, ← Int32.toInt_inj, vp_in_iff, Int32.reduceToInt] at c_2 c_5 c_7 c_9 c_10 c_11 c_13 c_14 c_15 b_1 b_4 b_6 b_8 hq_60 hr_60 hq_84 hr_84 b_12 hq_172 hr_172 hu hg hf hw0 hw ⊢) <;> omega) (by omega) (fun c i j h1 h6 h7 h8 h14 h71 h72 => hF_172 c i j h1 h6 h7 h8 h14 h71 h72) (vAs_w hv_172 (by decide) (by decide)) hp_172 (by rw [eV_172, VL_X12_ask_172, if_neg c_14, if_pos c_15]) (by rw [eS_172, SL_X12_ask_172, if_neg c_14, if_pos c_15])
                              · skip
                                refine v_iconst (v := 1) (pc := 191) C dX12_ask_191 rfl ?_
                                refine v_goto (tgt := 196) (pc := 192) C dX12_ask_192 (by decide) ?_
                                refine v_iadd (pc := 196) C dX12_ask_196 ?_
                                refine v_istore (lv2 := [(4, .int ((x_172_4 + 1))), (5, .int (nI i_172)), (0, .ref (AL_172 (40, 0))), (1, .int (u)), (2, .int (x)), (3, .int (z))]) (pc := 197) C dX12_ask_197 (by decide) rfl ?_
                                refine v_iinc (v := nI (i_172 + 1)) (lv2 := [(5, .int (nI (i_172 + 1))), (4, .int ((x_172_4 + 1))), (0, .ref (AL_172 (40, 0))), (1, .int (u)), (2, .int (x)), (3, .int (z))]) (pc := 199) C dX12_ask_199 1 rfl (nI_1 _) (by decide) rfl ?_
                                refine v_goto (tgt := 172) (pc := 202) C dX12_ask_202 (by decide) ?_
                                refine v_lv (lv2 := [(5, .int (nI (i_172 + 1))), (4, .int ((x_172_4 + 1))), (0, .ref (AL_172 (40, 0))), (1, .int (u)), (2, .int (x)), (3, .int (z))]) [0, 1, 2, 3, 4, 5] rfl ?_
                                exact ih AL_172 (i_172 + 1) ((x_172_4 + 1)) q_172 (by (try simp only [Int32.le_iff_toInt_le, Int32.lt_iff_toInt_lt, ← Int32.toInt_inj, vp_in_iff, Int32.reduceToInt] at c_2 c_5 c_7 c_9 c_10 c_11 c_13 c_14 c_15 b_1 b_4 b_6 b_8 hq_60 hr_60 hq_84 hr_84 b_12 hq_172 hr_172 hu hg hf hw0 hw ⊢) <;> omega) (by omega) (fun c i j h1 h6 h7 h8 h14 h71 h72 => hF_172 c i j h1 h6 h7 h8 h14 h71 h72) (vAs_w hv_172 (by decide) (by decide)) hp_172 (by rw [eV_172, VL_X12_ask_172, if_neg c_14, if_neg c_15]) (by rw [eS_172, SL_X12_ask_172, if_neg c_14, if_neg c_15])
                        exact L_172 (20 + 1) AL_84 0 (0) q_84 (by omega) (by omega) (fun c i j h1 h6 h7 h8 h14 h71 h72 => hF_84 c i j h1 h6 h7 h8 h14 h71 h72) (vAs_w hv_84 (by decide) (by decide)) rfl (by rw [eV_84, VL_X12_ask_84, if_pos c_13]) (by rw [eS_84, SL_X12_ask_84, if_pos c_13])
                      · skip
                        refine v_iload_n (pc := 95) C dX12_ask_95 3 rfl rfl ?_
                        refine v_iload (pc := 96) C dX12_ask_96 0 rfl ?_
                        refine v_iload_n (pc := 98) C dX12_ask_98 4 rfl rfl ?_
                        refine v_callS (pc := 99) C (c_X12_token hG (g := q_84) (x) (nI i_84) (z) ) 3 wd_1700 wd_68 wd_1698 wd_1699 (by decide +kernel) (by decide) (by decide) rfl ([]) rfl (Nat.le_of_ble_eq_true rfl) ⟨by omega, by omega⟩ dX12_ask_99 (fun _ _ _ q => q.elim) (fun v9 A9 h9 hR9 => ?_)
                        obtain ⟨rfl, hA9, rfl⟩ := hR9
                        obtain rfl := hA9.symm
                        refine v_st (k2 := (vPw q_84 - vPw g)) (n2 := (2 * (vPw q_84 - vPw g))) (st2 := [.int ((V_X12_token q_84 (x) (nI i_84) (z)))]) rfl rfl rfl ?_
                        refine v_istore (lv2 := [(5, .int ((V_X12_token q_84 (x) (nI i_84) (z)))), (4, .int (nI i_84)), (0, .ref (AL_84 (40, 0))), (1, .int (u)), (2, .int (x)), (3, .int (z))]) (pc := 102) C dX12_ask_102 (by decide) rfl ?_
                        refine v_aload_n (pc := 104) C dX12_ask_104 2 rfl rfl ?_
                        refine v_iload (pc := 105) C dX12_ask_105 0 rfl ?_
                        have hM := M10_shows (D := D + i_84) (x := (V_X12_token q_84 (x) (nI i_84) (z))) h10_84 (by omega)
                        have hM11 : vM11 E (S_X12_shows q_84 ((V_X12_token q_84 (x) (nI i_84) (z)))) := vM11_k (fun _ _ => F_X12_shows (by decide) (by decide) (by decide) (by decide) (by decide)) (fun _ _ => F_X12_shows (by decide) (by decide) (by decide) (by decide) (by decide)) h11_84
                        have hpz : vPw (S_X12_shows q_84 ((V_X12_token q_84 (x) (nI i_84) (z)))) ≤ vPw (S_X12_ask g u x z) := by
                          rw [show S_X12_ask g u x z = (SL_X12_ask_113 g u x z i_84 q_84 (SL_X12_ask_84 g u x z n) (60 + 1) 0 (S_X12_shows q_84 ((V_X12_token q_84 (x) (nI i_84) (z))))) from (by rw [eS_84, SL_X12_ask_84, if_neg c_13])]
                          exact mono_ask2 (C := D + i_84 + 1) (E := E) (fun q k k11 => mono_ask hD hE n (i_84 + 1) q (by simp only [Int32.le_iff_toInt_le, Int32.lt_iff_toInt_lt, ← Int32.toInt_inj] at c_2 c_5 c_7 c_9 c_10 c_11 c_13 b_1 b_4 b_6 b_8 hq_60 hr_60 hq_84 hr_84 b_12; omega) k k11) _ _ _ hM.1 hM11
                        refine v_callV (pc := 107) C (40, 0) ck_40 rfl (c_X12_shows hG (g := q_84) ((V_X12_token q_84 (x) (nI i_84) (z))) (by rw [show q_84 2 0 0 = g 2 0 0 from hF_84 _ _ _ (by decide) (by decide) (by decide) (by decide) (by decide) (by decide) (by decide)]; exact hu0) (by rw [show q_84 2 0 0 = g 2 0 0 from hF_84 _ _ _ (by decide) (by decide) (by decide) (by decide) (by decide) (by decide) (by decide)]; exact hu) (by rw [show q_84 3 0 0 = g 3 0 0 from hF_84 _ _ _ (by decide) (by decide) (by decide) (by decide) (by decide) (by decide) (by decide)]; exact hg0) (by rw [show q_84 3 0 0 = g 3 0 0 from hF_84 _ _ _ (by decide) (by decide) (by decide) (by decide) (by decide) (by decide) (by decide)]; exact hg) (by rw [show q_84 4 0 0 = g 4 0 0 from hF_84 _ _ _ (by decide) (by decide) (by decide) (by decide) (by decide) (by decide) (by decide)]; exact hf0) (by rw [show q_84 4 0 0 = g 4 0 0 from hF_84 _ _ _ (by decide) (by decide) (by decide) (by decide) (by decide) (by decide) (by decide)]; exact hf) (D + i_84) h10_84 (by omega) hr) 1 wd_1712 wd_68 wd_1709 wd_1711 wd_53 (by decide +kernel) (by decide) (by decide) rfl ([]) rfl (Nat.le_of_ble_eq_true rfl) ⟨by omega, by omega⟩ dX12_ask_107 (fun _ _ _ q => q.elim) (fun v9 A_16 h9 hR9 => ?_)
                        obtain ⟨rfl, hA_16, rfl⟩ := hR9
                        refine v_st (k2 := ((vPw q_84 - vPw g) + (vPw (S_X12_shows q_84 ((V_X12_token q_84 (x) (nI i_84) (z)))) - vPw q_84))) (n2 := ((2 * (vPw q_84 - vPw g)) + (2 * (vPw (S_X12_shows q_84 ((V_X12_token q_84 (x) (nI i_84) (z)))) - vPw q_84)))) (st2 := []) rfl rfl rfl ?_
                        refine v_lve (lv2 := [(5, .int ((V_X12_token q_84 (x) (nI i_84) (z)))), (4, .int (nI i_84)), (0, .ref (A_16 (40, 0))), (1, .int (u)), (2, .int (x)), (3, .int (z))]) (by rw [(hA_16 (40, 0) (Or.inl (by show 40 < 71; decide)))]) ?_
                        refine v_iconst (v := 0) (pc := 110) C dX12_ask_110 rfl ?_
                        refine v_istore (lv2 := [(6, .int (0)), (5, .int ((V_X12_token q_84 (x) (nI i_84) (z)))), (4, .int (nI i_84)), (0, .ref (A_16 (40, 0))), (1, .int (u)), (2, .int (x)), (3, .int (z))]) (pc := 111) C dX12_ask_111 (by decide) rfl ?_
                        have L_113 : ∀ (n2 : Nat) (AL_113 : vN → Nat) (i_113 : Nat) (q_113 : vS), i_113 ≤ 60 → 60 + 1 ≤ i_113 + n2 → (∀ (c i j : Nat), c ≠ 1 → c ≠ 6 → c ≠ 7 → c ≠ 8 → c ≠ 14 → c ≠ 71 → c ≠ 72 → q_113 c i j = g c i j) → vAs 71 71 AL_113  A → vPw q_113 = vPw (S_X12_shows q_84 (V_X12_token q_84 (x) (nI i_84) (z))) → vM10 (D + i_84 + 1) q_113 → vM11 E q_113 → vM12 q_113 → vM13 q_113 → (V_X12_ask g u x z) = VL_X12_ask_113 g u x z i_84 q_84 (VL_X12_ask_84 g u x z n) n2 i_113 q_113 → (S_X12_ask g u x z) = SL_X12_ask_113 g u x z i_84 q_84 (SL_X12_ask_84 g u x z n) n2 i_113 q_113 → V G 7 X AL_113 (wm q_113 r) ((vPw q_84 - vPw g) + (vPw (S_X12_shows q_84 ((V_X12_token q_84 (x) (nI i_84) (z)))) - vPw q_84)) ((2 * (vPw q_84 - vPw g)) + (2 * (vPw (S_X12_shows q_84 ((V_X12_token q_84 (x) (nI i_84) (z)))) - vPw q_84))) (vM G X (fun v A2 h2 => v = some (.int (V_X12_ask g u x z)) ∧ vAs 71 71 A2 A ∧ h2 = wm (S_X12_ask g u x z) r) (vNoX) (vPw (S_X12_ask g u x z) - vPw g) (2 * (vPw (S_X12_ask g u x z) - vPw g))) 113 [(6, .int (nI i_113)), (5, .int ((V_X12_token q_84 (x) (nI i_84) (z)))), (4, .int (nI i_84)), (0, .ref (AL_113 (40, 0))), (1, .int (u)), (2, .int (x)), (3, .int (z))] [] := by
                          intro n2
                          induction n2 with
                          | zero => intro AL_113 i_113 q_113 hi_113 hc_113 hF_113 hv_113 hp_113 h10_113 h11_113 h12_113 h13_113 eV_113 eS_113; exact absurd hc_113 (by omega)
                          | succ n2 ih2 =>
                            intro AL_113 i_113 q_113 hi_113 hc_113 hF_113 hv_113 hp_113 h10_113 h11_113 h12_113 h13_113 eV_113 eS_113
                            have hq_113 : (nI i_113).toInt = (i_113 : Int) := nI_toInt (by omega)
                            have hr_113 : (nI (i_113 + 1)).toInt = ((i_113 + 1 : Nat) : Int) := nI_toInt (by omega)
                            refine v_iload (pc := 113) C dX12_ask_113 0 rfl ?_
                            refine v_aload_n (pc := 115) C dX12_ask_115 3 rfl rfl ?_
                            refine v_get (pc := 116) C (40, 0) (v := .int ((g 5 0 0))) ck_40 rfl 29 (by decide) inX12 wd_1417 rfl (congrArg Value.int (hF_113 _ _ _ (by decide) (by decide) (by decide) (by decide) (by decide) (by decide) (by decide))) dX12_ask_116 ?_
                            refine v_icmp_ge (pc := 119) (tgt := 160) C dX12_ask_119 (by decide) (fun c_17 => ?_) (fun c_17 => ?_)
                            · skip
                              refine v_iinc (v := nI (i_84 + 1)) (lv2 := [(4, .int (nI (i_84 + 1))), (6, .int (nI i_113)), (5, .int ((V_X12_token q_84 (x) (nI i_84) (z)))), (0, .ref (AL_113 (40, 0))), (1, .int (u)), (2, .int (x)), (3, .int (z))]) (pc := 160) C dX12_ask_160 2 rfl (nI_1 _) (by decide) rfl ?_
                              refine v_goto (tgt := 84) (pc := 163) C dX12_ask_163 (by decide) ?_
                              refine v_lv (lv2 := [(4, .int (nI (i_84 + 1))), (0, .ref (AL_113 (40, 0))), (1, .int (u)), (2, .int (x)), (3, .int (z))]) [0, 3, 4, 5, 6] rfl ?_
                              refine v_widen (k2 := (vPw q_113 - vPw g)) (n2 := (2 * (vPw q_113 - vPw g))) (by omega) (by omega) ?_
                              exact ih AL_113 (i_84 + 1) q_113 (by (try simp only [Int32.le_iff_toInt_le, Int32.lt_iff_toInt_lt, ← Int32.toInt_inj, vp_in_iff, Int32.reduceToInt] at c_2 c_5 c_7 c_9 c_10 c_11 c_13 c_17 b_1 b_4 b_6 b_8 hq_60 hr_60 hq_84 hr_84 b_12 hq_113 hr_113 hu hg hf hw0 hw ⊢) <;> omega) (by omega) (fun c i j h1 h6 h7 h8 h14 h71 h72 => hF_113 c i j h1 h6 h7 h8 h14 h71 h72) (vAs_w hv_113 (by decide) (by decide)) (by omega) (vM10_le (by omega) h10_113) h11_113 h12_113 h13_113 (by rw [eV_113, VL_X12_ask_113, if_pos c_17]) (by rw [eS_113, SL_X12_ask_113, if_pos c_17])
                            · skip
                              refine v_aload_n (pc := 122) C dX12_ask_122 3 rfl rfl ?_
                              refine v_get (pc := 123) C (40, 0) (v := .ref (AL_113 (72, 0))) ck_40 rfl 28 (by decide) inX12 wd_1416 rfl rfl dX12_ask_123 ?_
                              refine v_aload_n (pc := 126) C dX12_ask_126 3 rfl rfl ?_
                              refine v_get (pc := 127) C (40, 0) (v := .ref (AL_113 (70, 0))) ck_40 rfl 26 (by decide) inX12 wd_1414 rfl rfl dX12_ask_127 ?_
                              refine v_iload (pc := 130) C dX12_ask_130 0 rfl ?_
                              refine v_iald (pc := 132) C (70, 0) (v := (g 70 i_113 0)) ck_70 (by (try simp only [Int32.le_iff_toInt_le, Int32.lt_iff_toInt_lt, ← Int32.toInt_inj, vp_in_iff, Int32.reduceToInt] at c_2 c_5 c_7 c_9 c_10 c_11 c_13 c_17 b_1 b_4 b_6 b_8 hq_60 hr_60 hq_84 hr_84 b_12 hq_113 hr_113 hu hg hf hw0 hw ⊢) <;> omega) ((congrArg (fun k => q_113 70 k 0) (show (nI i_113 : Int32).toNatClampNeg = i_113 from (nI_clamp (by omega)))).trans (hF_113 _ _ _ (by decide) (by decide) (by decide) (by decide) (by decide) (by decide) (by decide))) dX12_ask_132 ?_
                              have b_18 := h12 i_113
                              refine v_dup2_11 (pc := 133) C dX12_ask_133 rfl rfl ?_
                              refine v_zald (pc := 134) C (72, 0) (v := (q_113 72 ((g 70 i_113 0)).toNatClampNeg 0)) ck_72 (by (try simp only [Int32.le_iff_toInt_le, Int32.lt_iff_toInt_lt, ← Int32.toInt_inj, vp_in_iff, Int32.reduceToInt] at c_2 c_5 c_7 c_9 c_10 c_11 c_13 c_17 b_1 b_4 b_6 b_8 hq_60 hr_60 hq_84 hr_84 b_12 hq_113 hr_113 b_18 hu hg hf hw0 hw ⊢) <;> omega) rfl dX12_ask_134 ?_
                              refine v_aload_n (pc := 135) C dX12_ask_135 3 rfl rfl ?_
                              refine v_get (pc := 136) C (40, 0) (v := .ref (AL_113 (69, 0))) ck_40 rfl 25 (by decide) inX12 wd_1413 rfl rfl dX12_ask_136 ?_
                              refine v_iload (pc := 139) C dX12_ask_139 0 rfl ?_
                              refine v_iald (pc := 141) C (69, 0) (v := (g 69 i_113 0)) ck_69 (by (try simp only [Int32.le_iff_toInt_le, Int32.lt_iff_toInt_lt, ← Int32.toInt_inj, vp_in_iff, Int32.reduceToInt] at c_2 c_5 c_7 c_9 c_10 c_11 c_13 c_17 b_1 b_4 b_6 b_8 hq_60 hr_60 hq_84 hr_84 b_12 hq_113 hr_113 b_18 hu hg hf hw0 hw ⊢) <;> omega) ((congrArg (fun k => q_113 69 k 0) (show (nI i_113 : Int32).toNatClampNeg = i_113 from (nI_clamp (by omega)))).trans (hF_113 _ _ _ (by decide) (by decide) (by decide) (by decide) (by decide) (by decide) (by decide))) dX12_ask_141 ?_
                              refine v_iload (pc := 142) C dX12_ask_142 1 rfl ?_
                              refine v_icmp_ne (pc := 144) (tgt := 151) C dX12_ask_144 (by decide) (fun c_19 => ?_) (fun c_19 => ?_)
                              · skip
                                refine v_iconst (v := 0) (pc := 151) C dX12_ask_151 rfl ?_
                                refine v_ior (pc := 152) C dX12_ask_152 ?_
                                refine v_zast (pc := 153) C (72, 0) (x := ((q_113 72 ((g 70 i_113 0)).toNatClampNeg 0) ||| 0)) ck_72 (by (try simp only [Int32.le_iff_toInt_le, Int32.lt_iff_toInt_lt, ← Int32.toInt_inj, vp_in_iff, Int32.reduceToInt] at c_2 c_5 c_7 c_9 c_10 c_11 c_13 c_17 c_19 b_1 b_4 b_6 b_8 hq_60 hr_60 hq_84 hr_84 b_12 hq_113 hr_113 b_18 hu hg hf hw0 hw ⊢) <;> omega) (vpn_b (or_bit0 (h13_113 _))) dX12_ask_153 ?_
                                refine v_h (h2 := (wm (s3 q_113 72 ((g 70 i_113 0)).toNatClampNeg 0 (((q_113 72 ((g 70 i_113 0)).toNatClampNeg 0) ||| 0))) r)) (u_72_a) ?_
                                refine v_iinc (v := nI (i_113 + 1)) (lv2 := [(6, .int (nI (i_113 + 1))), (5, .int ((V_X12_token q_84 (x) (nI i_84) (z)))), (4, .int (nI i_84)), (0, .ref (AL_113 (40, 0))), (1, .int (u)), (2, .int (x)), (3, .int (z))]) (pc := 154) C dX12_ask_154 0 rfl (nI_1 _) (by decide) rfl ?_
                                refine v_goto (tgt := 113) (pc := 157) C dX12_ask_157 (by decide) ?_
                                refine v_lv (lv2 := [(6, .int (nI (i_113 + 1))), (5, .int ((V_X12_token q_84 (x) (nI i_84) (z)))), (4, .int (nI i_84)), (0, .ref (AL_113 (40, 0))), (1, .int (u)), (2, .int (x)), (3, .int (z))]) [0, 1, 2, 3, 4, 5, 6] rfl ?_
                                exact ih2 AL_113 (i_113 + 1) (s3 q_113 72 ((g 70 i_113 0)).toNatClampNeg 0 (((q_113 72 ((g 70 i_113 0)).toNatClampNeg 0) ||| 0))) (by (try simp only [Int32.le_iff_toInt_le, Int32.lt_iff_toInt_lt, ← Int32.toInt_inj, vp_in_iff, Int32.reduceToInt] at c_2 c_5 c_7 c_9 c_10 c_11 c_13 c_17 c_19 b_1 b_4 b_6 b_8 hq_60 hr_60 hq_84 hr_84 b_12 hq_113 hr_113 b_18 hu hg hf hw0 hw ⊢) <;> omega) (by omega) (fun c i j h1 h6 h7 h8 h14 h71 h72 => (s3_k h72).trans (hF_113 c i j h1 h6 h7 h8 h14 h71 h72)) (vAs_w hv_113 (by decide) (by decide)) ((vPw_k (fun _ _ => s3_k (by decide))).trans hp_113) (vM10_k (fun _ _ => s3_k (by decide)) (fun _ _ => s3_k (by decide)) h10_113) (vM11_k (fun _ _ => s3_k (by decide)) (fun _ _ => s3_k (by decide)) h11_113) (vM12_k (fun _ _ => s3_k (by decide)) h12_113) (vM13_s (or_bit0 (h13_113 _)) h13_113) (by rw [eV_113, VL_X12_ask_113, if_neg c_17, if_neg c_19]) (by rw [eS_113, SL_X12_ask_113, if_neg c_17, if_neg c_19])
                              · skip
                                refine v_iconst (v := 1) (pc := 147) C dX12_ask_147 rfl ?_
                                refine v_goto (tgt := 152) (pc := 148) C dX12_ask_148 (by decide) ?_
                                refine v_ior (pc := 152) C dX12_ask_152 ?_
                                refine v_zast (pc := 153) C (72, 0) (x := ((q_113 72 ((g 70 i_113 0)).toNatClampNeg 0) ||| 1)) ck_72 (by (try simp only [Int32.le_iff_toInt_le, Int32.lt_iff_toInt_lt, ← Int32.toInt_inj, vp_in_iff, Int32.reduceToInt] at c_2 c_5 c_7 c_9 c_10 c_11 c_13 c_17 c_19 b_1 b_4 b_6 b_8 hq_60 hr_60 hq_84 hr_84 b_12 hq_113 hr_113 b_18 hu hg hf hw0 hw ⊢) <;> omega) (vpn_b (or_bit1 (h13_113 _))) dX12_ask_153 ?_
                                refine v_h (h2 := (wm (s3 q_113 72 ((g 70 i_113 0)).toNatClampNeg 0 (((q_113 72 ((g 70 i_113 0)).toNatClampNeg 0) ||| 1))) r)) (u_72_a) ?_
                                refine v_iinc (v := nI (i_113 + 1)) (lv2 := [(6, .int (nI (i_113 + 1))), (5, .int ((V_X12_token q_84 (x) (nI i_84) (z)))), (4, .int (nI i_84)), (0, .ref (AL_113 (40, 0))), (1, .int (u)), (2, .int (x)), (3, .int (z))]) (pc := 154) C dX12_ask_154 0 rfl (nI_1 _) (by decide) rfl ?_
                                refine v_goto (tgt := 113) (pc := 157) C dX12_ask_157 (by decide) ?_
                                refine v_lv (lv2 := [(6, .int (nI (i_113 + 1))), (5, .int ((V_X12_token q_84 (x) (nI i_84) (z)))), (4, .int (nI i_84)), (0, .ref (AL_113 (40, 0))), (1, .int (u)), (2, .int (x)), (3, .int (z))]) [0, 1, 2, 3, 4, 5, 6] rfl ?_
                                exact ih2 AL_113 (i_113 + 1) (s3 q_113 72 ((g 70 i_113 0)).toNatClampNeg 0 (((q_113 72 ((g 70 i_113 0)).toNatClampNeg 0) ||| 1))) (by (try simp only [Int32.le_iff_toInt_le, Int32.lt_iff_toInt_lt, ← Int32.toInt_inj, vp_in_iff, Int32.reduceToInt] at c_2 c_5 c_7 c_9 c_10 c_11 c_13 c_17 c_19 b_1 b_4 b_6 b_8 hq_60 hr_60 hq_84 hr_84 b_12 hq_113 hr_113 b_18 hu hg hf hw0 hw ⊢) <;> omega) (by omega) (fun c i j h1 h6 h7 h8 h14 h71 h72 => (s3_k h72).trans (hF_113 c i j h1 h6 h7 h8 h14 h71 h72)) (vAs_w hv_113 (by decide) (by decide)) ((vPw_k (fun _ _ => s3_k (by decide))).trans hp_113) (vM10_k (fun _ _ => s3_k (by decide)) (fun _ _ => s3_k (by decide)) h10_113) (vM11_k (fun _ _ => s3_k (by decide)) (fun _ _ => s3_k (by decide)) h11_113) (vM12_k (fun _ _ => s3_k (by decide)) h12_113) (vM13_s (or_bit1 (h13_113 _)) h13_113) (by rw [eV_113, VL_X12_ask_113, if_neg c_17, if_pos c_19]) (by rw [eS_113, SL_X12_ask_113, if_neg c_17, if_pos c_19])
                        exact L_113 (60 + 1) A_16 0 (S_X12_shows q_84 ((V_X12_token q_84 (x) (nI i_84) (z)))) (by omega) (by omega) (fun c i j h1 h6 h7 h8 h14 h71 h72 => (F_X12_shows h6 h7 h8 h14 h71).trans (hF_84 c i j h1 h6 h7 h8 h14 h71 h72)) (vAs_t (vAs_w hA_16 (by decide) (by decide)) (vAs_w hv_84 (by decide) (by decide))) rfl (M10_shows h10_84 (by omega)).1 (vM11_k (fun _ _ => F_X12_shows (by decide) (by decide) (by decide) (by decide) (by decide)) (fun _ _ => F_X12_shows (by decide) (by decide) (by decide) (by decide) (by decide)) h11_84) (vM12_k (fun _ _ => F_X12_shows (by decide) (by decide) (by decide) (by decide) (by decide)) h12_84) (vM13_k (fun _ _ => F_X12_shows (by decide) (by decide) (by decide) (by decide) (by decide)) h13_84) (by rw [eV_84, VL_X12_ask_84, if_neg c_13]) (by rw [eS_84, SL_X12_ask_84, if_neg c_13])
                  refine v_widen (k2 := (vPw q_60 - vPw g)) (n2 := (2 * (vPw q_60 - vPw g))) (by omega) (by omega) ?_
                  exact L_84 (1000 + 1) A 0 q_60 (by omega) (by omega) (fun c i j h1 h6 h7 h8 h14 h71 h72 => hF_60 c i j h1 h72) vAs_r (Nat.le_of_eq (vPw_k (fun _ _ => hF_60 _ _ _ (by decide) (by decide))).symm) h10_60 h11_60 h12_60 h13_60 (by rw [eV_60, VL_X12_ask_60, if_pos c_11]) (by rw [eS_60, SL_X12_ask_60, if_pos c_11])
                · skip
                  refine v_aload_n (pc := 67) C dX12_ask_67 1 rfl rfl ?_
                  refine v_get (pc := 68) C (40, 0) (v := .ref (A (72, 0))) ck_40 rfl 28 (by decide) inX12 wd_1416 rfl rfl dX12_ask_68 ?_
                  refine v_iload (pc := 71) C dX12_ask_71 0 rfl ?_
                  refine v_iconst (v := 0) (pc := 73) C dX12_ask_73 rfl ?_
                  refine v_zast (pc := 74) C (72, 0) (x := 0) ck_72 (by (try simp only [Int32.le_iff_toInt_le, Int32.lt_iff_toInt_lt, ← Int32.toInt_inj, vp_in_iff, Int32.reduceToInt] at c_2 c_5 c_7 c_9 c_10 c_11 b_1 b_4 b_6 b_8 hq_60 hr_60 hu hg hf hw0 hw ⊢) <;> omega) (by decide) dX12_ask_74 ?_
                  rw [show (nI i_60 : Int32).toNatClampNeg = i_60 from (nI_clamp (by omega))]
                  refine v_h (h2 := (wm (s3 q_60 72 i_60 0 (0)) r)) (u_72_a) ?_
                  refine v_iinc (v := nI (i_60 + 1)) (lv2 := [(4, .int (nI (i_60 + 1))), (0, .ref (A (40, 0))), (1, .int (u)), (2, .int (x)), (3, .int (z))]) (pc := 75) C dX12_ask_75 0 rfl (nI_1 _) (by decide) rfl ?_
                  refine v_goto (tgt := 60) (pc := 78) C dX12_ask_78 (by decide) ?_
                  refine v_lv (lv2 := [(4, .int (nI (i_60 + 1))), (0, .ref (A (40, 0))), (1, .int (u)), (2, .int (x)), (3, .int (z))]) [0, 1, 2, 3, 4] rfl ?_
                  exact ih (i_60 + 1) (s3 q_60 72 i_60 0 (0)) (by (try simp only [Int32.le_iff_toInt_le, Int32.lt_iff_toInt_lt, ← Int32.toInt_inj, vp_in_iff, Int32.reduceToInt] at c_2 c_5 c_7 c_9 c_10 c_11 b_1 b_4 b_6 b_8 hq_60 hr_60 hu hg hf hw0 hw ⊢) <;> omega) (by omega) (fun c i j h1 h72 => (s3_k h72).trans (hF_60 c i j h1 h72)) (vM10_k (fun _ _ => s3_k (by decide)) (fun _ _ => s3_k (by decide)) h10_60) (vM11_k (fun _ _ => s3_k (by decide)) (fun _ _ => s3_k (by decide)) h11_60) (vM12_k (fun _ _ => s3_k (by decide)) h12_60) (vM13_s (Or.inl rfl) h13_60) (by rw [eV_60, VL_X12_ask_60, if_neg c_11]) (by rw [eS_60, SL_X12_ask_60, if_neg c_11])
            exact L_60 (20 + 1) 0 (S_X12_isWrong g (0)) (by omega) (by omega) (fun c i j h1 h72 => F_X12_isWrong h1) (vM10_k (fun _ _ => F_X12_isWrong (by decide)) (fun _ _ => F_X12_isWrong (by decide)) h10) (vM11_k (fun _ _ => F_X12_isWrong (by decide)) (fun _ _ => F_X12_isWrong (by decide)) h11) (vM12_k (fun _ _ => F_X12_isWrong (by decide)) h12) (vM13_k (fun _ _ => F_X12_isWrong (by decide)) h13) (by rw [V_X12_ask, if_neg c_2, if_neg c_5, if_neg c_7, if_pos c_9]) (by rw [S_X12_ask, if_neg c_2, if_neg c_5, if_neg c_7, if_pos c_9])
          · skip
            exact absurd c_10 (fun q9 => q9 ((show (0 : Int32) = 0 from rfl)))
        · skip
          refine v_iconst (v := 3) (pc := 44) C dX12_ask_44 rfl ?_
          refine v_goto (tgt := 49) (pc := 45) C dX12_ask_45 (by decide) ?_
          refine v_callV (pc := 49) C (40, 0) ck_40 rfl (c_X12_isWrong hG (g := g) (3) ) 1 wd_1531 wd_68 wd_1528 wd_1530 wd_35 (by decide +kernel) (by decide) (by decide) rfl ([]) rfl (Nat.le_of_ble_eq_true rfl) ⟨Nat.zero_le _, Nat.zero_le _⟩ dX12_ask_49 (fun _ _ _ q => q.elim) (fun v9 A9 h9 hR9 => ?_)
          obtain ⟨rfl, hA9, rfl⟩ := hR9
          obtain rfl := hA9.symm
          refine v_st (k2 := 0) (n2 := 0) (st2 := [.int ((V_X12_isWrong g (3)))]) rfl rfl rfl ?_
          refine v_if_eq (pc := 52) (tgt := 57) C dX12_ask_52 (by decide) (fun c_20 => ?_) (fun c_20 => ?_)
          · skip
            exact absurd c_20 (fun q9 => ((show ¬ (1 : Int32) = 0 from by decide)) q9)
          · skip
            refine v_iconst (v := 0) (pc := 55) C dX12_ask_55 rfl ?_
            exact v_iret (pc := 56) C (Nat.zero_le _) (Nat.zero_le _) dX12_ask_56 ⟨(congrArg (fun q => some (Value.int q)) (by show _ = _; rw [V_X12_ask, if_neg c_2, if_neg c_5, if_neg c_7, if_neg c_9])), vAs_r, (congrArg (fun q => wm q r) (by show _ = _; rw [S_X12_ask, if_neg c_2, if_neg c_5, if_neg c_7, if_neg c_9]))⟩
      · skip
        refine v_iconst (v := 2) (pc := 31) C dX12_ask_31 rfl ?_
        refine v_goto (tgt := 49) (pc := 32) C dX12_ask_32 (by decide) ?_
        refine v_callV (pc := 49) C (40, 0) ck_40 rfl (c_X12_isWrong hG (g := g) (2) ) 1 wd_1531 wd_68 wd_1528 wd_1530 wd_35 (by decide +kernel) (by decide) (by decide) rfl ([]) rfl (Nat.le_of_ble_eq_true rfl) ⟨Nat.zero_le _, Nat.zero_le _⟩ dX12_ask_49 (fun _ _ _ q => q.elim) (fun v9 A9 h9 hR9 => ?_)
        obtain ⟨rfl, hA9, rfl⟩ := hR9
        obtain rfl := hA9.symm
        refine v_st (k2 := 0) (n2 := 0) (st2 := [.int ((V_X12_isWrong g (2)))]) rfl rfl rfl ?_
        refine v_if_eq (pc := 52) (tgt := 57) C dX12_ask_52 (by decide) (fun c_21 => ?_) (fun c_21 => ?_)
        · skip
          exact absurd c_21 (fun q9 => ((show ¬ (1 : Int32) = 0 from by decide)) q9)
        · skip
          refine v_iconst (v := 0) (pc := 55) C dX12_ask_55 rfl ?_
          exact v_iret (pc := 56) C (Nat.zero_le _) (Nat.zero_le _) dX12_ask_56 ⟨(congrArg (fun q => some (Value.int q)) (by show _ = _; rw [V_X12_ask, if_neg c_2, if_neg c_5, if_pos c_7])), vAs_r, (congrArg (fun q => wm q r) (by show _ = _; rw [S_X12_ask, if_neg c_2, if_neg c_5, if_pos c_7]))⟩
    · skip
      refine v_iconst (v := 1) (pc := 17) C dX12_ask_17 rfl ?_
      refine v_goto (tgt := 49) (pc := 18) C dX12_ask_18 (by decide) ?_
      refine v_callV (pc := 49) C (40, 0) ck_40 rfl (c_X12_isWrong hG (g := g) (1) ) 1 wd_1531 wd_68 wd_1528 wd_1530 wd_35 (by decide +kernel) (by decide) (by decide) rfl ([]) rfl (Nat.le_of_ble_eq_true rfl) ⟨Nat.zero_le _, Nat.zero_le _⟩ dX12_ask_49 (fun _ _ _ q => q.elim) (fun v9 A9 h9 hR9 => ?_)
      obtain ⟨rfl, hA9, rfl⟩ := hR9
      obtain rfl := hA9.symm
      refine v_st (k2 := 0) (n2 := 0) (st2 := [.int ((V_X12_isWrong g (1)))]) rfl rfl rfl ?_
      refine v_if_eq (pc := 52) (tgt := 57) C dX12_ask_52 (by decide) (fun c_22 => ?_) (fun c_22 => ?_)
      · skip
        exact absurd c_22 (fun q9 => ((show ¬ (1 : Int32) = 0 from by decide)) q9)
      · skip
        refine v_iconst (v := 0) (pc := 55) C dX12_ask_55 rfl ?_
        exact v_iret (pc := 56) C (Nat.zero_le _) (Nat.zero_le _) dX12_ask_56 ⟨(congrArg (fun q => some (Value.int q)) (by show _ = _; rw [V_X12_ask, if_neg c_2, if_pos c_5])), vAs_r, (congrArg (fun q => wm q r) (by show _ = _; rw [S_X12_ask, if_neg c_2, if_pos c_5]))⟩
