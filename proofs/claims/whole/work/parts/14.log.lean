def VR_X5_rootOfRange (g : vS) : Nat → Int32 → Int32 → Int32 → Int32
  | 0, _, _, _ => 0
  | n + 1, a, s, l => (if s < 1 then 0 else (if 12 < l then 0 else (if a < 0 then 0 else (if a < 300 then (if s = 1 then pMix (8) ((g 80 (a).toNatClampNeg 0)) else pMix (pMix (9) ((VR_X5_rootOfRange g n (a) ((V_X5_firstOnes g (s))) ((l + 1))))) ((VR_X5_rootOfRange g n ((a + (V_X5_firstOnes g (s)))) ((s - (V_X5_firstOnes g (s)))) ((l + 1))))) else 0))))
set_option maxHeartbeats 4000000 in
set_option maxRecDepth 100000 in
theorem c_X5_rootOfRange_s {G : vG} (hG : G.1.stackTraces = false) {A : vN → Nat} {g : vS} {r : vH} (n : Nat) (ih : ∀ (a : Int32) (s : Int32) (l : Int32), 13 ≤ l.toInt + n → 0 ≤ l.toInt → vCt G yX5_rootOfRange cX5_rootOfRange 7 (some .int) (2 + n) [.ref (A (5, 0)), .int (a), .int (s), .int (l)] A (w g r) (fun v A2 h2 => v = some (.int (VR_X5_rootOfRange g n a s l)) ∧ A2 = A ∧ h2 = w g r) vNoX 0 0) (a : Int32) (s : Int32) (l : Int32) (h1 : 13 ≤ l.toInt + (n + 1)) (h2 : 0 ≤ l.toInt) : vCt G yX5_rootOfRange cX5_rootOfRange 7 (some .int) (2 + (n + 1)) [.ref (A (5, 0)), .int (a), .int (s), .int (l)] A (w g r) (fun v A2 h2 => v = some (.int (VR_X5_rootOfRange g (n + 1) a s l)) ∧ A2 = A ∧ h2 = w g r) (vNoX) 0 0 := by
  refine v_of hG (by decide +kernel) (Nat.le_of_ble_eq_true rfl) (lv := [(0, .ref (A (5, 0))), (1, .int (a)), (2, .int (s)), (3, .int (l))]) rfl (fun X C hnx => ?_)
  have C : vC G X cX5_rootOfRange 7 RX5 (some .int) "rootOfRange" (2 + (n + 1)) 0 0 := C
  refine v_iload_n (pc := 0) C dX5_rootOfRange_0 2 rfl rfl ?_
  refine v_iconst (v := 1) (pc := 1) C dX5_rootOfRange_1 rfl ?_
  refine v_icmp_lt (pc := 2) (tgt := 21) C dX5_rootOfRange_2 (by decide) (fun c_1 => ?_) (fun c_1 => ?_)
  · skip
    refine v_iconst (v := 0) (pc := 21) C dX5_rootOfRange_21 rfl ?_
    exact v_iret (pc := 22) C (by decide) (by decide) dX5_rootOfRange_22 ⟨(congrArg (fun q => some (Value.int q)) (by show _ = _; rw [VR_X5_rootOfRange, if_pos c_1])), rfl, rfl⟩
  · skip
    refine v_iload_n (pc := 5) C dX5_rootOfRange_5 3 rfl rfl ?_
    refine v_bipush (v := 12) (pc := 6) C dX5_rootOfRange_6 (by decide) ?_
    refine v_icmp_gt (pc := 8) (tgt := 21) C dX5_rootOfRange_8 (by decide) (fun c_2 => ?_) (fun c_2 => ?_)
    · skip
      refine v_iconst (v := 0) (pc := 21) C dX5_rootOfRange_21 rfl ?_
      exact v_iret (pc := 22) C (by decide) (by decide) dX5_rootOfRange_22 ⟨(congrArg (fun q => some (Value.int q)) (by show _ = _; rw [VR_X5_rootOfRange, if_neg c_1, if_pos c_2])), rfl, rfl⟩
    · skip
      refine v_iload_n (pc := 11) C dX5_rootOfRange_11 1 rfl rfl ?_
      refine v_if_lt (pc := 12) (tgt := 21) C dX5_rootOfRange_12 (by decide) (fun c_3 => ?_) (fun c_3 => ?_)
      · skip
        refine v_iconst (v := 0) (pc := 21) C dX5_rootOfRange_21 rfl ?_
        exact v_iret (pc := 22) C (by decide) (by decide) dX5_rootOfRange_22 ⟨(congrArg (fun q => some (Value.int q)) (by show _ = _; rw [VR_X5_rootOfRange, if_neg c_1, if_neg c_2, if_pos c_3])), rfl, rfl⟩
      · skip
        refine v_iload_n (pc := 15) C dX5_rootOfRange_15 1 rfl rfl ?_
        refine v_aload_n (pc := 16) C dX5_rootOfRange_16 0 rfl rfl ?_
        refine v_alen (pc := 17) C (5, 0) (v := 300) ck_5 rfl (by decide) dX5_rootOfRange_17 ?_
        refine v_icmp_lt (pc := 18) (tgt := 23) C dX5_rootOfRange_18 (by decide) (fun c_4 => ?_) (fun c_4 => ?_)
        · skip
          refine v_iload_n (pc := 23) C dX5_rootOfRange_23 2 rfl rfl ?_
          refine v_iconst (v := 1) (pc := 24) C dX5_rootOfRange_24 rfl ?_
          refine v_icmp_ne (pc := 25) (tgt := 37) C dX5_rootOfRange_25 (by decide) (fun c_5 => ?_) (fun c_5 => ?_)
          · skip
            refine v_iload_n (pc := 37) C dX5_rootOfRange_37 2 rfl rfl ?_
            refine v_callS (pc := 38) C (c_X5_firstOnes hG (s) ) 1 wd_1061 wd_63 wd_1059 wd_1060 (by decide +kernel) (by omega) (by decide) rfl ([]) rfl (Nat.le_of_ble_eq_true rfl) (by decide) dX5_rootOfRange_38 (fun _ _ _ q => q.elim) (fun v9 A9 h9 hR9 => ?_)
            obtain ⟨rfl, hA9, rfl⟩ := hR9
            obtain rfl := hA9.symm
            refine v_st (k2 := 0) (n2 := 0) (st2 := [.int ((V_X5_firstOnes g (s)))]) rfl rfl rfl ?_
            refine v_istore (lv2 := [(4, .int ((V_X5_firstOnes g (s)))), (0, .ref (A (5, 0))), (1, .int (a)), (2, .int (s)), (3, .int (l))]) (pc := 41) C dX5_rootOfRange_41 (by decide) rfl ?_
            refine v_aload_n (pc := 43) C dX5_rootOfRange_43 1 rfl rfl ?_
            refine v_iload_n (pc := 44) C dX5_rootOfRange_44 2 rfl rfl ?_
            refine v_iload (pc := 45) C dX5_rootOfRange_45 0 rfl ?_
            refine v_iload_n (pc := 47) C dX5_rootOfRange_47 4 rfl rfl ?_
            refine v_iconst (v := 1) (pc := 48) C dX5_rootOfRange_48 rfl ?_
            refine v_iadd (pc := 49) C dX5_rootOfRange_49 ?_
            refine v_callS (pc := 50) C (ih (a) ((V_X5_firstOnes g (s))) ((l + 1)) (by have hz := i32_add1 (x := l) (by simp only [Int32.le_iff_toInt_le, Int32.lt_iff_toInt_lt, Int32.reduceToInt] at c_1 c_2 c_3 c_4 c_5; omega); omega) (by have hz := i32_add1 (x := l) (by simp only [Int32.le_iff_toInt_le, Int32.lt_iff_toInt_lt, Int32.reduceToInt] at c_1 c_2 c_3 c_4 c_5; omega); omega)) 4 wd_1057 wd_63 wd_1055 wd_1056 (by decide +kernel) (by omega) (by decide) rfl ([]) rfl (Nat.le_of_ble_eq_true rfl) (by decide) dX5_rootOfRange_50 (fun _ _ _ q => q.elim) (fun v9 A9 h9 hR9 => ?_)
            obtain ⟨rfl, hA9, rfl⟩ := hR9
            obtain rfl := hA9.symm
            refine v_st (k2 := 0) (n2 := 0) (st2 := [.int ((VR_X5_rootOfRange g n (a) ((V_X5_firstOnes g (s))) ((l + 1))))]) rfl rfl rfl ?_
            refine v_istore (lv2 := [(5, .int ((VR_X5_rootOfRange g n (a) ((V_X5_firstOnes g (s))) ((l + 1))))), (4, .int ((V_X5_firstOnes g (s)))), (0, .ref (A (5, 0))), (1, .int (a)), (2, .int (s)), (3, .int (l))]) (pc := 53) C dX5_rootOfRange_53 (by decide) rfl ?_
            refine v_aload_n (pc := 55) C dX5_rootOfRange_55 2 rfl rfl ?_
            refine v_iload_n (pc := 56) C dX5_rootOfRange_56 3 rfl rfl ?_
            refine v_iload (pc := 57) C dX5_rootOfRange_57 1 rfl ?_
            refine v_iadd (pc := 59) C dX5_rootOfRange_59 ?_
            refine v_iload_n (pc := 60) C dX5_rootOfRange_60 4 rfl rfl ?_
            refine v_iload (pc := 61) C dX5_rootOfRange_61 1 rfl ?_
            refine v_isub (pc := 63) C dX5_rootOfRange_63 ?_
            refine v_iload_n (pc := 64) C dX5_rootOfRange_64 5 rfl rfl ?_
            refine v_iconst (v := 1) (pc := 65) C dX5_rootOfRange_65 rfl ?_
            refine v_iadd (pc := 66) C dX5_rootOfRange_66 ?_
            refine v_callS (pc := 67) C (ih ((a + (V_X5_firstOnes g (s)))) ((s - (V_X5_firstOnes g (s)))) ((l + 1)) (by have hz := i32_add1 (x := l) (by simp only [Int32.le_iff_toInt_le, Int32.lt_iff_toInt_lt, Int32.reduceToInt] at c_1 c_2 c_3 c_4 c_5; omega); omega) (by have hz := i32_add1 (x := l) (by simp only [Int32.le_iff_toInt_le, Int32.lt_iff_toInt_lt, Int32.reduceToInt] at c_1 c_2 c_3 c_4 c_5; omega); omega)) 4 wd_1057 wd_63 wd_1055 wd_1056 (by decide +kernel) (by omega) (by decide) rfl ([]) rfl (Nat.le_of_ble_eq_true rfl) (by decide) dX5_rootOfRange_67 (fun _ _ _ q => q.elim) (fun v9 A9 h9 hR9 => ?_)
            obtain ⟨rfl, hA9, rfl⟩ := hR9
            obtain rfl := hA9.symm
            refine v_st (k2 := 0) (n2 := 0) (st2 := [.int ((VR_X5_rootOfRange g n ((a + (V_X5_firstOnes g (s)))) ((s - (V_X5_firstOnes g (s)))) ((l + 1))))]) rfl rfl rfl ?_
            refine v_istore (lv2 := [(6, .int ((VR_X5_rootOfRange g n ((a + (V_X5_firstOnes g (s)))) ((s - (V_X5_firstOnes g (s)))) ((l + 1))))), (5, .int ((VR_X5_rootOfRange g n (a) ((V_X5_firstOnes g (s))) ((l + 1))))), (4, .int ((V_X5_firstOnes g (s)))), (0, .ref (A (5, 0))), (1, .int (a)), (2, .int (s)), (3, .int (l))]) (pc := 70) C dX5_rootOfRange_70 (by decide) rfl ?_
            refine v_bipush (v := 9) (pc := 72) C dX5_rootOfRange_72 (by decide) ?_
            refine v_iload (pc := 74) C dX5_rootOfRange_74 1 rfl ?_
            refine v_callS (pc := 76) C (c_X0_mix hG (9) ((VR_X5_rootOfRange g n (a) ((V_X5_firstOnes g (s))) ((l + 1))))) 2 wd_313 wd_78 wd_1058 wd_312 (by decide +kernel) (by omega) (by decide) rfl ([]) rfl (Nat.le_of_ble_eq_true rfl) (by decide) dX5_rootOfRange_76 (fun _ _ _ q => q.elim) (fun v9 A9 h9 hR9 => ?_)
            obtain ⟨rfl, hA9, rfl⟩ := hR9
            obtain rfl := hA9.symm
            refine v_st (k2 := 0) (n2 := 0) (st2 := [.int (pMix (9) ((VR_X5_rootOfRange g n (a) ((V_X5_firstOnes g (s))) ((l + 1)))))]) rfl rfl rfl ?_
            refine v_iload (pc := 79) C dX5_rootOfRange_79 0 rfl ?_
            refine v_callS (pc := 81) C (c_X0_mix hG (pMix (9) ((VR_X5_rootOfRange g n (a) ((V_X5_firstOnes g (s))) ((l + 1))))) ((VR_X5_rootOfRange g n ((a + (V_X5_firstOnes g (s)))) ((s - (V_X5_firstOnes g (s)))) ((l + 1))))) 2 wd_313 wd_78 wd_1058 wd_312 (by decide +kernel) (by omega) (by decide) rfl ([]) rfl (Nat.le_of_ble_eq_true rfl) (by decide) dX5_rootOfRange_81 (fun _ _ _ q => q.elim) (fun v9 A9 h9 hR9 => ?_)
            obtain ⟨rfl, hA9, rfl⟩ := hR9
            obtain rfl := hA9.symm
            refine v_st (k2 := 0) (n2 := 0) (st2 := [.int (pMix (pMix (9) ((VR_X5_rootOfRange g n (a) ((V_X5_firstOnes g (s))) ((l + 1))))) ((VR_X5_rootOfRange g n ((a + (V_X5_firstOnes g (s)))) ((s - (V_X5_firstOnes g (s)))) ((l + 1)))))]) rfl rfl rfl ?_
            exact v_iret (pc := 84) C (by decide) (by decide) dX5_rootOfRange_84 ⟨(congrArg (fun q => some (Value.int q)) (by show _ = _; rw [VR_X5_rootOfRange, if_neg c_1, if_neg c_2, if_neg c_3, if_pos c_4, if_neg c_5])), rfl, rfl⟩
          · skip
            refine v_bipush (v := 8) (pc := 28) C dX5_rootOfRange_28 (by decide) ?_
            refine v_aload_n (pc := 30) C dX5_rootOfRange_30 0 rfl rfl ?_
            refine v_iload_n (pc := 31) C dX5_rootOfRange_31 1 rfl rfl ?_
            refine v_iald (pc := 32) C (5, 0) (v := (g 80 (a).toNatClampNeg 0)) ck_5 (by (try simp only [Int32.le_iff_toInt_le, Int32.lt_iff_toInt_lt, ← Int32.toInt_inj, vp_in_iff, Int32.reduceToInt] at c_1 c_2 c_3 c_4 c_5 ⊢) <;> omega) rfl dX5_rootOfRange_32 ?_
            refine v_callS (pc := 33) C (c_X0_mix hG (8) ((g 80 (a).toNatClampNeg 0))) 2 wd_313 wd_78 wd_1058 wd_312 (by decide +kernel) (by omega) (by decide) rfl ([]) rfl (Nat.le_of_ble_eq_true rfl) (by decide) dX5_rootOfRange_33 (fun _ _ _ q => q.elim) (fun v9 A9 h9 hR9 => ?_)
            obtain ⟨rfl, hA9, rfl⟩ := hR9
            obtain rfl := hA9.symm
            refine v_st (k2 := 0) (n2 := 0) (st2 := [.int (pMix (8) ((g 80 (a).toNatClampNeg 0)))]) rfl rfl rfl ?_
            exact v_iret (pc := 36) C (by decide) (by decide) dX5_rootOfRange_36 ⟨(congrArg (fun q => some (Value.int q)) (by show _ = _; rw [VR_X5_rootOfRange, if_neg c_1, if_neg c_2, if_neg c_3, if_pos c_4, if_pos c_5])), rfl, rfl⟩
        · skip
          refine v_iconst (v := 0) (pc := 21) C dX5_rootOfRange_21 rfl ?_
          exact v_iret (pc := 22) C (by decide) (by decide) dX5_rootOfRange_22 ⟨(congrArg (fun q => some (Value.int q)) (by show _ = _; rw [VR_X5_rootOfRange, if_neg c_1, if_neg c_2, if_neg c_3, if_neg c_4])), rfl, rfl⟩
set_option maxHeartbeats 4000000 in
set_option maxRecDepth 100000 in
theorem c_X5_rootOfRange_z {G : vG} (hG : G.1.stackTraces = false) {A : vN → Nat} {g : vS} {r : vH} (a : Int32) (s : Int32) (l : Int32) (h1 : 13 ≤ l.toInt + 0) (h2 : 0 ≤ l.toInt) : vCt G yX5_rootOfRange cX5_rootOfRange 7 (some .int) (2 + 0) [.ref (A (5, 0)), .int (a), .int (s), .int (l)] A (w g r) (fun v A2 h2 => v = some (.int (VR_X5_rootOfRange g 0 a s l)) ∧ A2 = A ∧ h2 = w g r) (vNoX) 0 0 := by
  refine v_of hG (by decide +kernel) (Nat.le_of_ble_eq_true rfl) (lv := [(0, .ref (A (5, 0))), (1, .int (a)), (2, .int (s)), (3, .int (l))]) rfl (fun X C hnx => ?_)
  have C : vC G X cX5_rootOfRange 7 RX5 (some .int) "rootOfRange" (2 + 0) 0 0 := C
  refine v_iload_n (pc := 0) C dX5_rootOfRange_0 2 rfl rfl ?_
  refine v_iconst (v := 1) (pc := 1) C dX5_rootOfRange_1 rfl ?_
  refine v_icmp_lt (pc := 2) (tgt := 21) C dX5_rootOfRange_2 (by decide) (fun c_1 => ?_) (fun c_1 => ?_)
  · skip
    refine v_iconst (v := 0) (pc := 21) C dX5_rootOfRange_21 rfl ?_
    exact v_iret (pc := 22) C (by decide) (by decide) dX5_rootOfRange_22 ⟨(congrArg (fun q => some (Value.int q)) (by show _ = _; rw [VR_X5_rootOfRange])), rfl, rfl⟩
  · skip
    refine v_iload_n (pc := 5) C dX5_rootOfRange_5 3 rfl rfl ?_
    refine v_bipush (v := 12) (pc := 6) C dX5_rootOfRange_6 (by decide) ?_
    refine v_icmp_gt (pc := 8) (tgt := 21) C dX5_rootOfRange_8 (by decide) (fun c_2 => ?_) (fun c_2 => ?_)
    · skip
      refine v_iconst (v := 0) (pc := 21) C dX5_rootOfRange_21 rfl ?_
      exact v_iret (pc := 22) C (by decide) (by decide) dX5_rootOfRange_22 ⟨(congrArg (fun q => some (Value.int q)) (by show _ = _; rw [VR_X5_rootOfRange])), rfl, rfl⟩
    · skip
      exact absurd c_2 (not_not_intro (by simp only [Int32.lt_iff_toInt_lt, Int32.reduceToInt]; omega))
theorem c_X5_rootOfRange_n {G : vG} (hG : G.1.stackTraces = false) {A : vN → Nat} {g : vS} {r : vH} : ∀ (n : Nat) (a : Int32) (s : Int32) (l : Int32), 13 ≤ l.toInt + n → 0 ≤ l.toInt → vCt G yX5_rootOfRange cX5_rootOfRange 7 (some .int) (2 + n) [.ref (A (5, 0)), .int (a), .int (s), .int (l)] A (w g r) (fun v A2 h2 => v = some (.int (VR_X5_rootOfRange g n a s l)) ∧ A2 = A ∧ h2 = w g r) vNoX 0 0 := by
  intro n
  induction n with
  | zero => intro a s l h1 h2; exact c_X5_rootOfRange_z hG a s l (by omega) h2
  | succ n ih => intro a s l h1 h2; exact c_X5_rootOfRange_s hG n ih a s l (by omega) h2
def V_X5_rootOfRange (g : vS) (a : Int32) (s : Int32) (l : Int32) : Int32 := VR_X5_rootOfRange g 13 a s l
theorem c_X5_rootOfRange {G : vG} (hG : G.1.stackTraces = false) {A : vN → Nat} {g : vS} {r : vH} (a : Int32) (s : Int32) (l : Int32) (h : ¬ l < 0) : vCt G yX5_rootOfRange cX5_rootOfRange 7 (some .int) 15 [.ref (A (5, 0)), .int (a), .int (s), .int (l)] A (w g r) (fun v A2 h2 => v = some (.int (V_X5_rootOfRange g a s l)) ∧ A2 = A ∧ h2 = w g r) vNoX 0 0 := c_X5_rootOfRange_n hG 13 a s l (by rw [Int32.lt_iff_toInt_lt] at h; simp only [Int32.reduceToInt] at h; omega) (by rw [Int32.lt_iff_toInt_lt] at h; simp only [Int32.reduceToInt] at h; omega)
def V_X5_rootOf (g : vS) (nl : Int32) : Int32 := (V_X5_rootOfRange g (0) (nl) (0))
set_option maxHeartbeats 4000000 in
set_option maxRecDepth 100000 in
theorem c_X5_rootOf {G : vG} (hG : G.1.stackTraces = false) {A : vN → Nat} {g : vS} {r : vH} (nl : Int32)  : vCt G yX5_rootOf cX5_rootOf 2 (some .int) 16 [.ref (A (4, 0)), .int (nl)] A (w g r) (fun v A2 h2 => v = some (.int (V_X5_rootOf g nl)) ∧ A2 = A ∧ h2 = w g r) (vNoX) 0 0 := by
  refine v_of hG (by decide +kernel) (Nat.le_of_ble_eq_true rfl) (lv := [(0, .ref (A (4, 0))), (1, .int (nl))]) rfl (fun X C hnx => ?_)
  have C : vC G X cX5_rootOf 2 RX5 (some .int) "rootOf" 16 0 0 := C
  refine v_aload_n (pc := 0) C dX5_rootOf_0 0 rfl rfl ?_
  refine v_get (pc := 1) C (4, 0) (v := .ref (A (5, 0))) ck_4 rfl 0 (by decide) inX5 wd_110 rfl rfl dX5_rootOf_1 ?_
  refine v_iconst (v := 0) (pc := 4) C dX5_rootOf_4 rfl ?_
  refine v_iload_n (pc := 5) C dX5_rootOf_5 1 rfl rfl ?_
  refine v_iconst (v := 0) (pc := 6) C dX5_rootOf_6 rfl ?_
  refine v_callS (pc := 7) C (c_X5_rootOfRange hG (0) (nl) (0) (by decide)) 4 wd_1057 wd_63 wd_1055 wd_1056 (by decide +kernel) (by decide) (by decide) rfl ([]) rfl (Nat.le_of_ble_eq_true rfl) (by decide) dX5_rootOf_7 (fun _ _ _ q => q.elim) (fun v9 A9 h9 hR9 => ?_)
  obtain ⟨rfl, hA9, rfl⟩ := hR9
  obtain rfl := hA9.symm
  refine v_st (k2 := 0) (n2 := 0) (st2 := [.int ((V_X5_rootOfRange g (0) (nl) (0)))]) rfl rfl rfl ?_
  exact v_iret (pc := 10) C (by decide) (by decide) dX5_rootOf_10 ⟨(congrArg (fun q => some (Value.int q)) (by show _ = _; rw [V_X5_rootOf])), rfl, rfl⟩
def VL_X5_findProof_13 (g : vS) (nl : Int32) (x : Int32) : Nat → Nat → Int32 → Int32 → vS → Int32
  | 0, _, _, _, _ => 0
  | n + 1, i_13, x_13_4, x_13_3, q_13 => (if 12 ≤ nI i_13 then (q_13 15 0 0) else (if x_13_4 ≤ 1 then (q_13 15 0 0) else (if (x_13_3 + (V_X5_firstOnes q_13 (x_13_4))) ≤ x then (VL_X5_findProof_13 g nl x n (i_13 + 1) ((x_13_4 - (V_X5_firstOnes q_13 (x_13_4)))) ((x_13_3 + (V_X5_firstOnes q_13 (x_13_4)))) (S_X5_addToRow q_13 ((V_X5_rootOfRange q_13 (x_13_3) ((V_X5_firstOnes q_13 (x_13_4))) (nI i_13))))) else (VL_X5_findProof_13 g nl x n (i_13 + 1) ((V_X5_firstOnes q_13 (x_13_4))) (x_13_3) (S_X5_addToRow q_13 ((V_X5_rootOfRange q_13 ((x_13_3 + (V_X5_firstOnes q_13 (x_13_4)))) ((x_13_4 - (V_X5_firstOnes q_13 (x_13_4)))) (nI i_13))))))))
def SL_X5_findProof_13 (g : vS) (nl : Int32) (x : Int32) : Nat → Nat → Int32 → Int32 → vS → vS
  | 0, _, _, _, q9 => q9
  | n + 1, i_13, x_13_4, x_13_3, q_13 => (if 12 ≤ nI i_13 then q_13 else (if x_13_4 ≤ 1 then q_13 else (if (x_13_3 + (V_X5_firstOnes q_13 (x_13_4))) ≤ x then (SL_X5_findProof_13 g nl x n (i_13 + 1) ((x_13_4 - (V_X5_firstOnes q_13 (x_13_4)))) ((x_13_3 + (V_X5_firstOnes q_13 (x_13_4)))) (S_X5_addToRow q_13 ((V_X5_rootOfRange q_13 (x_13_3) ((V_X5_firstOnes q_13 (x_13_4))) (nI i_13))))) else (SL_X5_findProof_13 g nl x n (i_13 + 1) ((V_X5_firstOnes q_13 (x_13_4))) (x_13_3) (S_X5_addToRow q_13 ((V_X5_rootOfRange q_13 ((x_13_3 + (V_X5_firstOnes q_13 (x_13_4)))) ((x_13_4 - (V_X5_firstOnes q_13 (x_13_4)))) (nI i_13))))))))
def V_X5_findProof (g : vS) (nl : Int32) (x : Int32) : Int32 := (VL_X5_findProof_13 g nl x (12 + 1) 0 (nl) (0) (s3 g 15 0 0 (0)))
def S_X5_findProof (g : vS) (nl : Int32) (x : Int32) : vS := (SL_X5_findProof_13 g nl x (12 + 1) 0 (nl) (0) (s3 g 15 0 0 (0)))
theorem FL_X5_findProof_13 {g : vS} {nl : Int32} {x : Int32} {c i j : Nat} (h15 : c ≠ 15) (h81 : c ≠ 81) : ∀ (n : Nat) (a0 : Nat) (a1 : Int32) (a2 : Int32) (a3 : vS), a3 c i j = g c i j → SL_X5_findProof_13 g nl x n a0 a1 a2 a3 c i j = g c i j := by
  intro n
  induction n with
  | zero => intro a0 a1 a2 a3 hq9; exact hq9
  | succ n ih =>
    intro a0 a1 a2 a3 hq9
    simp only [SL_X5_findProof_13]
    (repeat' split) <;> first | rfl | exact hq9 | (apply ih; first | exact hq9 | rfl | trivial | ((simp only [s3_k h15, s3_k h81, F_X5_addToRow h15 h81]) <;> first | done | exact hq9 | rfl)) | ((simp only [s3_k h15, s3_k h81, F_X5_addToRow h15 h81]) <;> first | done | exact hq9 | rfl)
theorem F_X5_findProof {g : vS} {nl : Int32} {x : Int32} {c i j : Nat} (h15 : c ≠ 15) (h81 : c ≠ 81) : S_X5_findProof g nl x c i j = g c i j := by
  unfold S_X5_findProof
  (repeat' split) <;> first | rfl | (apply FL_X5_findProof_13 h15 h81; first | rfl | trivial | ((simp only [s3_k h15, s3_k h81, F_X5_addToRow h15 h81]) <;> first | done | rfl)) | ((simp only [s3_k h15, s3_k h81, F_X5_addToRow h15 h81]) <;> first | done | rfl)
set_option maxHeartbeats 4000000 in
set_option maxRecDepth 100000 in
theorem c_X5_findProof {G : vG} (hG : G.1.stackTraces = false) {A : vN → Nat} {g : vS} {r : vH} (nl : Int32) (x : Int32)  : vCt G yX5_findProof cX5_findProof 7 (some .int) 16 [.ref (A (4, 0)), .int (nl), .int (x)] A (w g r) (fun v A2 h2 => v = some (.int (V_X5_findProof g nl x)) ∧ A2 = A ∧ h2 = w (S_X5_findProof g nl x) r) (vNoX) 0 0 := by
  refine v_of hG (by decide +kernel) (Nat.le_of_ble_eq_true rfl) (lv := [(0, .ref (A (4, 0))), (1, .int (nl)), (2, .int (x))]) rfl (fun X C hnx => ?_)
  have C : vC G X cX5_findProof 7 RX5 (some .int) "findProof" 16 0 0 := C
  refine v_iconst (v := 0) (pc := 0) C dX5_findProof_0 rfl ?_
  refine v_istore_n (lv2 := [(3, .int (0)), (0, .ref (A (4, 0))), (1, .int (nl)), (2, .int (x))]) (pc := 1) C dX5_findProof_1 rfl (by decide) rfl ?_
  refine v_iload_n (pc := 2) C dX5_findProof_2 2 rfl rfl ?_
  refine v_istore (lv2 := [(4, .int (nl)), (3, .int (0)), (0, .ref (A (4, 0))), (1, .int (nl)), (2, .int (x))]) (pc := 3) C dX5_findProof_3 (by decide) rfl ?_
  refine v_aload_n (pc := 5) C dX5_findProof_5 2 rfl rfl ?_
  refine v_iconst (v := 0) (pc := 6) C dX5_findProof_6 rfl ?_
  refine v_put (pc := 7) C (4, 0) (v := .int (0)) ck_4 rfl 3 (by decide) inX5 tyX5 tyX5_ok nmX5 wd_113 rfl (.inl (Value.int (0))) rfl (ty := tyX5 3) (by decide +kernel) rfl rfl (Nat.le_of_ble_eq_true rfl) dX5_findProof_7 ?_
  refine v_h (h2 := (w (s3 g 15 0 0 (0)) r)) (u_4_3) ?_
  refine v_iconst (v := 0) (pc := 10) C dX5_findProof_10 rfl ?_
  refine v_istore (lv2 := [(5, .int (0)), (4, .int (nl)), (3, .int (0)), (0, .ref (A (4, 0))), (1, .int (nl)), (2, .int (x))]) (pc := 11) C dX5_findProof_11 (by decide) rfl ?_
  have L_13 : ∀ (n : Nat) (i_13 : Nat) (x_13_4 : Int32) (x_13_3 : Int32) (q_13 : vS), i_13 ≤ 12 → 12 + 1 ≤ i_13 + n → (∀ (c i j : Nat), c ≠ 15 → c ≠ 81 → q_13 c i j = g c i j) → (V_X5_findProof g nl x) = VL_X5_findProof_13 g nl x n i_13 x_13_4 x_13_3 q_13 → (S_X5_findProof g nl x) = SL_X5_findProof_13 g nl x n i_13 x_13_4 x_13_3 q_13 → V G 7 X A (w q_13 r) 0 0 (vM G X (fun v A2 h2 => v = some (.int (V_X5_findProof g nl x)) ∧ A2 = A ∧ h2 = w (S_X5_findProof g nl x) r) (vNoX) 0 0) 13 [(5, .int (nI i_13)), (4, .int (x_13_4)), (3, .int (x_13_3)), (0, .ref (A (4, 0))), (1, .int (nl)), (2, .int (x))] [] := by
    intro n
    induction n with
    | zero => intro i_13 x_13_4 x_13_3 q_13 hi_13 hc_13 hF_13 eV_13 eS_13; exact absurd hc_13 (by omega)
    | succ n ih =>
      intro i_13 x_13_4 x_13_3 q_13 hi_13 hc_13 hF_13 eV_13 eS_13
      have hq_13 : (nI i_13).toInt = (i_13 : Int) := nI_toInt (by omega)
      have hr_13 : (nI (i_13 + 1)).toInt = ((i_13 + 1 : Nat) : Int) := nI_toInt (by omega)
      refine v_iload (pc := 13) C dX5_findProof_13 0 rfl ?_
      refine v_bipush (v := 12) (pc := 15) C dX5_findProof_15 (by decide) ?_
      refine v_icmp_ge (pc := 17) (tgt := 104) C dX5_findProof_17 (by decide) (fun c_1 => ?_) (fun c_1 => ?_)
      · skip
        refine v_aload_n (pc := 104) C dX5_findProof_104 3 rfl rfl ?_
        refine v_get (pc := 105) C (4, 0) (v := .int ((q_13 15 0 0))) ck_4 rfl 3 (by decide) inX5 wd_113 rfl rfl dX5_findProof_105 ?_
        exact v_iret (pc := 108) C (by decide) (by decide) dX5_findProof_108 ⟨(congrArg (fun q => some (Value.int q)) (by show _ = _; rw [eV_13, VL_X5_findProof_13, if_pos c_1])), rfl, (congrArg (fun q => w q r) (by show _ = _; rw [eS_13, SL_X5_findProof_13, if_pos c_1]))⟩
      · skip
        refine v_iload (pc := 20) C dX5_findProof_20 1 rfl ?_
        refine v_iconst (v := 1) (pc := 22) C dX5_findProof_22 rfl ?_
        refine v_icmp_le (pc := 23) (tgt := 104) C dX5_findProof_23 (by decide) (fun c_2 => ?_) (fun c_2 => ?_)
        · skip
          refine v_aload_n (pc := 104) C dX5_findProof_104 3 rfl rfl ?_
          refine v_get (pc := 105) C (4, 0) (v := .int ((q_13 15 0 0))) ck_4 rfl 3 (by decide) inX5 wd_113 rfl rfl dX5_findProof_105 ?_
          exact v_iret (pc := 108) C (by decide) (by decide) dX5_findProof_108 ⟨(congrArg (fun q => some (Value.int q)) (by show _ = _; rw [eV_13, VL_X5_findProof_13, if_neg c_1, if_pos c_2])), rfl, (congrArg (fun q => w q r) (by show _ = _; rw [eS_13, SL_X5_findProof_13, if_neg c_1, if_pos c_2]))⟩
        · skip
          refine v_iload (pc := 26) C dX5_findProof_26 1 rfl ?_
          refine v_callS (pc := 28) C (c_X5_firstOnes hG (x_13_4) ) 1 wd_1061 wd_63 wd_1059 wd_1060 (by decide +kernel) (by decide) (by decide) rfl ([]) rfl (Nat.le_of_ble_eq_true rfl) (by decide) dX5_findProof_28 (fun _ _ _ q => q.elim) (fun v9 A9 h9 hR9 => ?_)
          obtain ⟨rfl, hA9, rfl⟩ := hR9
          obtain rfl := hA9.symm
          refine v_st (k2 := 0) (n2 := 0) (st2 := [.int ((V_X5_firstOnes q_13 (x_13_4)))]) rfl rfl rfl ?_
          refine v_istore (lv2 := [(6, .int ((V_X5_firstOnes q_13 (x_13_4)))), (5, .int (nI i_13)), (4, .int (x_13_4)), (3, .int (x_13_3)), (0, .ref (A (4, 0))), (1, .int (nl)), (2, .int (x))]) (pc := 31) C dX5_findProof_31 (by decide) rfl ?_
          refine v_iload_n (pc := 33) C dX5_findProof_33 6 rfl rfl ?_
          refine v_iload_n (pc := 34) C dX5_findProof_34 3 rfl rfl ?_
          refine v_iload (pc := 35) C dX5_findProof_35 0 rfl ?_
          refine v_iadd (pc := 37) C dX5_findProof_37 ?_
          refine v_icmp_ge (pc := 38) (tgt := 70) C dX5_findProof_38 (by decide) (fun c_3 => ?_) (fun c_3 => ?_)
          · skip
            refine v_aload_n (pc := 70) C dX5_findProof_70 4 rfl rfl ?_
            refine v_aload_n (pc := 71) C dX5_findProof_71 4 rfl rfl ?_
            refine v_get (pc := 72) C (4, 0) (v := .ref (A (5, 0))) ck_4 rfl 0 (by decide) inX5 wd_110 rfl rfl dX5_findProof_72 ?_
            refine v_iload_n (pc := 75) C dX5_findProof_75 3 rfl rfl ?_
            refine v_iload (pc := 76) C dX5_findProof_76 0 rfl ?_
            refine v_iload (pc := 78) C dX5_findProof_78 1 rfl ?_
            refine v_callS (pc := 80) C (c_X5_rootOfRange hG (x_13_3) ((V_X5_firstOnes q_13 (x_13_4))) (nI i_13) (by (try simp only [Int32.le_iff_toInt_le, Int32.lt_iff_toInt_lt, ← Int32.toInt_inj, vp_in_iff, Int32.reduceToInt] at c_1 c_2 c_3 hq_13 hr_13 ⊢) <;> omega)) 4 wd_1057 wd_63 wd_1055 wd_1056 (by decide +kernel) (by decide) (by decide) rfl ([.ref (A (4, 0))]) rfl (Nat.le_of_ble_eq_true rfl) (by decide) dX5_findProof_80 (fun _ _ _ q => q.elim) (fun v9 A9 h9 hR9 => ?_)
            obtain ⟨rfl, hA9, rfl⟩ := hR9
            obtain rfl := hA9.symm
            refine v_st (k2 := 0) (n2 := 0) (st2 := [.int ((V_X5_rootOfRange q_13 (x_13_3) ((V_X5_firstOnes q_13 (x_13_4))) (nI i_13))), .ref (A (4, 0))]) rfl rfl rfl ?_
            refine v_callV (pc := 83) C (4, 0) ck_4 rfl (c_X5_addToRow hG ((V_X5_rootOfRange q_13 (x_13_3) ((V_X5_firstOnes q_13 (x_13_4))) (nI i_13))) ) 1 wd_1081 wd_63 wd_1078 wd_1080 wd_23 (by decide +kernel) (by decide) (by decide) rfl ([]) rfl (Nat.le_of_ble_eq_true rfl) (by decide) dX5_findProof_83 (fun _ _ _ q => q.elim) (fun v9 A9 h9 hR9 => ?_)
            obtain ⟨rfl, hA9, rfl⟩ := hR9
            obtain rfl := hA9.symm
            refine v_st (k2 := 0) (n2 := 0) (st2 := []) rfl rfl rfl ?_
            refine v_iload_n (pc := 86) C dX5_findProof_86 3 rfl rfl ?_
            refine v_iload (pc := 87) C dX5_findProof_87 0 rfl ?_
            refine v_iadd (pc := 89) C dX5_findProof_89 ?_
            refine v_istore_n (lv2 := [(3, .int ((x_13_3 + (V_X5_firstOnes q_13 (x_13_4))))), (6, .int ((V_X5_firstOnes q_13 (x_13_4)))), (5, .int (nI i_13)), (4, .int (x_13_4)), (0, .ref (A (4, 0))), (1, .int (nl)), (2, .int (x))]) (pc := 90) C dX5_findProof_90 rfl (by decide) rfl ?_
            refine v_iload (pc := 91) C dX5_findProof_91 3 rfl ?_
            refine v_iload (pc := 93) C dX5_findProof_93 1 rfl ?_
            refine v_isub (pc := 95) C dX5_findProof_95 ?_
            refine v_istore (lv2 := [(4, .int ((x_13_4 - (V_X5_firstOnes q_13 (x_13_4))))), (3, .int ((x_13_3 + (V_X5_firstOnes q_13 (x_13_4))))), (6, .int ((V_X5_firstOnes q_13 (x_13_4)))), (5, .int (nI i_13)), (0, .ref (A (4, 0))), (1, .int (nl)), (2, .int (x))]) (pc := 96) C dX5_findProof_96 (by decide) rfl ?_
            refine v_iinc (v := nI (i_13 + 1)) (lv2 := [(5, .int (nI (i_13 + 1))), (4, .int ((x_13_4 - (V_X5_firstOnes q_13 (x_13_4))))), (3, .int ((x_13_3 + (V_X5_firstOnes q_13 (x_13_4))))), (6, .int ((V_X5_firstOnes q_13 (x_13_4)))), (0, .ref (A (4, 0))), (1, .int (nl)), (2, .int (x))]) (pc := 98) C dX5_findProof_98 3 rfl (nI_1 _) (by decide) rfl ?_
            refine v_goto (tgt := 13) (pc := 101) C dX5_findProof_101 (by decide) ?_
            refine v_lv (lv2 := [(5, .int (nI (i_13 + 1))), (4, .int ((x_13_4 - (V_X5_firstOnes q_13 (x_13_4))))), (3, .int ((x_13_3 + (V_X5_firstOnes q_13 (x_13_4))))), (0, .ref (A (4, 0))), (1, .int (nl)), (2, .int (x))]) [0, 1, 2, 4, 5, 6] rfl ?_
            exact ih (i_13 + 1) ((x_13_4 - (V_X5_firstOnes q_13 (x_13_4)))) ((x_13_3 + (V_X5_firstOnes q_13 (x_13_4)))) (S_X5_addToRow q_13 ((V_X5_rootOfRange q_13 (x_13_3) ((V_X5_firstOnes q_13 (x_13_4))) (nI i_13)))) (by (try simp only [Int32.le_iff_toInt_le, Int32.lt_iff_toInt_lt, ← Int32.toInt_inj, vp_in_iff, Int32.reduceToInt] at c_1 c_2 c_3 hq_13 hr_13 ⊢) <;> omega) (by omega) (fun c i j h15 h81 => (F_X5_addToRow h15 h81).trans (hF_13 c i j h15 h81)) (by rw [eV_13, VL_X5_findProof_13, if_neg c_1, if_neg c_2, if_pos c_3]) (by rw [eS_13, SL_X5_findProof_13, if_neg c_1, if_neg c_2, if_pos c_3])
          · skip
            refine v_aload_n (pc := 41) C dX5_findProof_41 4 rfl rfl ?_
            refine v_aload_n (pc := 42) C dX5_findProof_42 4 rfl rfl ?_
            refine v_get (pc := 43) C (4, 0) (v := .ref (A (5, 0))) ck_4 rfl 0 (by decide) inX5 wd_110 rfl rfl dX5_findProof_43 ?_
            refine v_iload_n (pc := 46) C dX5_findProof_46 3 rfl rfl ?_
            refine v_iload (pc := 47) C dX5_findProof_47 0 rfl ?_
            refine v_iadd (pc := 49) C dX5_findProof_49 ?_
            refine v_iload (pc := 50) C dX5_findProof_50 2 rfl ?_
            refine v_iload (pc := 52) C dX5_findProof_52 0 rfl ?_
            refine v_isub (pc := 54) C dX5_findProof_54 ?_
            refine v_iload (pc := 55) C dX5_findProof_55 1 rfl ?_
            refine v_callS (pc := 57) C (c_X5_rootOfRange hG ((x_13_3 + (V_X5_firstOnes q_13 (x_13_4)))) ((x_13_4 - (V_X5_firstOnes q_13 (x_13_4)))) (nI i_13) (by (try simp only [Int32.le_iff_toInt_le, Int32.lt_iff_toInt_lt, ← Int32.toInt_inj, vp_in_iff, Int32.reduceToInt] at c_1 c_2 c_3 hq_13 hr_13 ⊢) <;> omega)) 4 wd_1057 wd_63 wd_1055 wd_1056 (by decide +kernel) (by decide) (by decide) rfl ([.ref (A (4, 0))]) rfl (Nat.le_of_ble_eq_true rfl) (by decide) dX5_findProof_57 (fun _ _ _ q => q.elim) (fun v9 A9 h9 hR9 => ?_)
            obtain ⟨rfl, hA9, rfl⟩ := hR9
            obtain rfl := hA9.symm
            refine v_st (k2 := 0) (n2 := 0) (st2 := [.int ((V_X5_rootOfRange q_13 ((x_13_3 + (V_X5_firstOnes q_13 (x_13_4)))) ((x_13_4 - (V_X5_firstOnes q_13 (x_13_4)))) (nI i_13))), .ref (A (4, 0))]) rfl rfl rfl ?_
            refine v_callV (pc := 60) C (4, 0) ck_4 rfl (c_X5_addToRow hG ((V_X5_rootOfRange q_13 ((x_13_3 + (V_X5_firstOnes q_13 (x_13_4)))) ((x_13_4 - (V_X5_firstOnes q_13 (x_13_4)))) (nI i_13))) ) 1 wd_1081 wd_63 wd_1078 wd_1080 wd_23 (by decide +kernel) (by decide) (by decide) rfl ([]) rfl (Nat.le_of_ble_eq_true rfl) (by decide) dX5_findProof_60 (fun _ _ _ q => q.elim) (fun v9 A9 h9 hR9 => ?_)
            obtain ⟨rfl, hA9, rfl⟩ := hR9
            obtain rfl := hA9.symm
            refine v_st (k2 := 0) (n2 := 0) (st2 := []) rfl rfl rfl ?_
            refine v_iload (pc := 63) C dX5_findProof_63 0 rfl ?_
            refine v_istore (lv2 := [(4, .int ((V_X5_firstOnes q_13 (x_13_4)))), (6, .int ((V_X5_firstOnes q_13 (x_13_4)))), (5, .int (nI i_13)), (3, .int (x_13_3)), (0, .ref (A (4, 0))), (1, .int (nl)), (2, .int (x))]) (pc := 65) C dX5_findProof_65 (by decide) rfl ?_
            refine v_goto (tgt := 98) (pc := 67) C dX5_findProof_67 (by decide) ?_
            refine v_iinc (v := nI (i_13 + 1)) (lv2 := [(5, .int (nI (i_13 + 1))), (4, .int ((V_X5_firstOnes q_13 (x_13_4)))), (6, .int ((V_X5_firstOnes q_13 (x_13_4)))), (3, .int (x_13_3)), (0, .ref (A (4, 0))), (1, .int (nl)), (2, .int (x))]) (pc := 98) C dX5_findProof_98 2 rfl (nI_1 _) (by decide) rfl ?_
            refine v_goto (tgt := 13) (pc := 101) C dX5_findProof_101 (by decide) ?_
            refine v_lv (lv2 := [(5, .int (nI (i_13 + 1))), (4, .int ((V_X5_firstOnes q_13 (x_13_4)))), (3, .int (x_13_3)), (0, .ref (A (4, 0))), (1, .int (nl)), (2, .int (x))]) [0, 1, 3, 4, 5, 6] rfl ?_
            exact ih (i_13 + 1) ((V_X5_firstOnes q_13 (x_13_4))) (x_13_3) (S_X5_addToRow q_13 ((V_X5_rootOfRange q_13 ((x_13_3 + (V_X5_firstOnes q_13 (x_13_4)))) ((x_13_4 - (V_X5_firstOnes q_13 (x_13_4)))) (nI i_13)))) (by (try simp only [Int32.le_iff_toInt_le, Int32.lt_iff_toInt_lt, ← Int32.toInt_inj, vp_in_iff, Int32.reduceToInt] at c_1 c_2 c_3 hq_13 hr_13 ⊢) <;> omega) (by omega) (fun c i j h15 h81 => (F_X5_addToRow h15 h81).trans (hF_13 c i j h15 h81)) (by rw [eV_13, VL_X5_findProof_13, if_neg c_1, if_neg c_2, if_neg c_3]) (by rw [eS_13, SL_X5_findProof_13, if_neg c_1, if_neg c_2, if_neg c_3])
  exact L_13 (12 + 1) 0 (nl) (0) (s3 g 15 0 0 (0)) (by omega) (by omega) (fun c i j h15 h81 => s3_k h15) (by rw [V_X5_findProof]) (by rw [S_X5_findProof])
def VL_X5_findPrefixProof_13 (g : vS) (m : Int32) (nl : Int32) : Nat → Nat → Int32 → Int32 → vS → Int32
  | 0, _, _, _, _ => 0
  | n + 1, i_13, x_13_4, x_13_3, q_13 => (if 12 ≤ nI i_13 then (if x_13_3 ≤ 0 then (q_13 15 0 0) else ((S_X5_addToRow q_13 ((V_X5_rootOfRange q_13 (x_13_3) (x_13_4) (0)))) 15 0 0)) else (if (x_13_3 + x_13_4) = m then (if x_13_3 ≤ 0 then (q_13 15 0 0) else ((S_X5_addToRow q_13 ((V_X5_rootOfRange q_13 (x_13_3) (x_13_4) (0)))) 15 0 0)) else (if (x_13_3 + (V_X5_firstOnes q_13 (x_13_4))) < m then (VL_X5_findPrefixProof_13 g m nl n (i_13 + 1) ((x_13_4 - (V_X5_firstOnes q_13 (x_13_4)))) ((x_13_3 + (V_X5_firstOnes q_13 (x_13_4)))) (S_X5_addToRow q_13 ((V_X5_rootOfRange q_13 (x_13_3) ((V_X5_firstOnes q_13 (x_13_4))) (nI i_13))))) else (VL_X5_findPrefixProof_13 g m nl n (i_13 + 1) ((V_X5_firstOnes q_13 (x_13_4))) (x_13_3) (S_X5_addToRow q_13 ((V_X5_rootOfRange q_13 ((x_13_3 + (V_X5_firstOnes q_13 (x_13_4)))) ((x_13_4 - (V_X5_firstOnes q_13 (x_13_4)))) (nI i_13))))))))
def SL_X5_findPrefixProof_13 (g : vS) (m : Int32) (nl : Int32) : Nat → Nat → Int32 → Int32 → vS → vS
  | 0, _, _, _, q9 => q9
  | n + 1, i_13, x_13_4, x_13_3, q_13 => (if 12 ≤ nI i_13 then (if x_13_3 ≤ 0 then q_13 else (S_X5_addToRow q_13 ((V_X5_rootOfRange q_13 (x_13_3) (x_13_4) (0))))) else (if (x_13_3 + x_13_4) = m then (if x_13_3 ≤ 0 then q_13 else (S_X5_addToRow q_13 ((V_X5_rootOfRange q_13 (x_13_3) (x_13_4) (0))))) else (if (x_13_3 + (V_X5_firstOnes q_13 (x_13_4))) < m then (SL_X5_findPrefixProof_13 g m nl n (i_13 + 1) ((x_13_4 - (V_X5_firstOnes q_13 (x_13_4)))) ((x_13_3 + (V_X5_firstOnes q_13 (x_13_4)))) (S_X5_addToRow q_13 ((V_X5_rootOfRange q_13 (x_13_3) ((V_X5_firstOnes q_13 (x_13_4))) (nI i_13))))) else (SL_X5_findPrefixProof_13 g m nl n (i_13 + 1) ((V_X5_firstOnes q_13 (x_13_4))) (x_13_3) (S_X5_addToRow q_13 ((V_X5_rootOfRange q_13 ((x_13_3 + (V_X5_firstOnes q_13 (x_13_4)))) ((x_13_4 - (V_X5_firstOnes q_13 (x_13_4)))) (nI i_13))))))))
def V_X5_findPrefixProof (g : vS) (m : Int32) (nl : Int32) : Int32 := (VL_X5_findPrefixProof_13 g m nl (12 + 1) 0 (nl) (0) (s3 g 15 0 0 (0)))
def S_X5_findPrefixProof (g : vS) (m : Int32) (nl : Int32) : vS := (SL_X5_findPrefixProof_13 g m nl (12 + 1) 0 (nl) (0) (s3 g 15 0 0 (0)))
theorem FL_X5_findPrefixProof_13 {g : vS} {m : Int32} {nl : Int32} {c i j : Nat} (h15 : c ≠ 15) (h81 : c ≠ 81) : ∀ (n : Nat) (a0 : Nat) (a1 : Int32) (a2 : Int32) (a3 : vS), a3 c i j = g c i j → SL_X5_findPrefixProof_13 g m nl n a0 a1 a2 a3 c i j = g c i j := by
  intro n
  induction n with
  | zero => intro a0 a1 a2 a3 hq9; exact hq9
  | succ n ih =>
    intro a0 a1 a2 a3 hq9
    simp only [SL_X5_findPrefixProof_13]
    (repeat' split) <;> first | rfl | exact hq9 | (apply ih; first | exact hq9 | rfl | trivial | ((simp only [s3_k h15, s3_k h81, F_X5_addToRow h15 h81]) <;> first | done | exact hq9 | rfl)) | ((simp only [s3_k h15, s3_k h81, F_X5_addToRow h15 h81]) <;> first | done | exact hq9 | rfl)
theorem F_X5_findPrefixProof {g : vS} {m : Int32} {nl : Int32} {c i j : Nat} (h15 : c ≠ 15) (h81 : c ≠ 81) : S_X5_findPrefixProof g m nl c i j = g c i j := by
  unfold S_X5_findPrefixProof
  (repeat' split) <;> first | rfl | (apply FL_X5_findPrefixProof_13 h15 h81; first | rfl | trivial | ((simp only [s3_k h15, s3_k h81, F_X5_addToRow h15 h81]) <;> first | done | rfl)) | ((simp only [s3_k h15, s3_k h81, F_X5_addToRow h15 h81]) <;> first | done | rfl)
set_option maxHeartbeats 4000000 in
set_option maxRecDepth 100000 in
theorem c_X5_findPrefixProof {G : vG} (hG : G.1.stackTraces = false) {A : vN → Nat} {g : vS} {r : vH} (m : Int32) (nl : Int32)  : vCt G yX5_findPrefixProof cX5_findPrefixProof 7 (some .int) 16 [.ref (A (4, 0)), .int (m), .int (nl)] A (w g r) (fun v A2 h2 => v = some (.int (V_X5_findPrefixProof g m nl)) ∧ A2 = A ∧ h2 = w (S_X5_findPrefixProof g m nl) r) (vNoX) 0 0 := by
  refine v_of hG (by decide +kernel) (Nat.le_of_ble_eq_true rfl) (lv := [(0, .ref (A (4, 0))), (1, .int (m)), (2, .int (nl))]) rfl (fun X C hnx => ?_)
  have C : vC G X cX5_findPrefixProof 7 RX5 (some .int) "findPrefixProof" 16 0 0 := C
  refine v_iconst (v := 0) (pc := 0) C dX5_findPrefixProof_0 rfl ?_
  refine v_istore_n (lv2 := [(3, .int (0)), (0, .ref (A (4, 0))), (1, .int (m)), (2, .int (nl))]) (pc := 1) C dX5_findPrefixProof_1 rfl (by decide) rfl ?_
  refine v_iload_n (pc := 2) C dX5_findPrefixProof_2 3 rfl rfl ?_
  refine v_istore (lv2 := [(4, .int (nl)), (3, .int (0)), (0, .ref (A (4, 0))), (1, .int (m)), (2, .int (nl))]) (pc := 3) C dX5_findPrefixProof_3 (by decide) rfl ?_
  refine v_aload_n (pc := 5) C dX5_findPrefixProof_5 2 rfl rfl ?_
  refine v_iconst (v := 0) (pc := 6) C dX5_findPrefixProof_6 rfl ?_
  refine v_put (pc := 7) C (4, 0) (v := .int (0)) ck_4 rfl 3 (by decide) inX5 tyX5 tyX5_ok nmX5 wd_113 rfl (.inl (Value.int (0))) rfl (ty := tyX5 3) (by decide +kernel) rfl rfl (Nat.le_of_ble_eq_true rfl) dX5_findPrefixProof_7 ?_
  refine v_h (h2 := (w (s3 g 15 0 0 (0)) r)) (u_4_3) ?_
  refine v_iconst (v := 0) (pc := 10) C dX5_findPrefixProof_10 rfl ?_
  refine v_istore (lv2 := [(5, .int (0)), (4, .int (nl)), (3, .int (0)), (0, .ref (A (4, 0))), (1, .int (m)), (2, .int (nl))]) (pc := 11) C dX5_findPrefixProof_11 (by decide) rfl ?_
  have L_13 : ∀ (n : Nat) (i_13 : Nat) (x_13_4 : Int32) (x_13_3 : Int32) (q_13 : vS), i_13 ≤ 12 → 12 + 1 ≤ i_13 + n → (∀ (c i j : Nat), c ≠ 15 → c ≠ 81 → q_13 c i j = g c i j) → (V_X5_findPrefixProof g m nl) = VL_X5_findPrefixProof_13 g m nl n i_13 x_13_4 x_13_3 q_13 → (S_X5_findPrefixProof g m nl) = SL_X5_findPrefixProof_13 g m nl n i_13 x_13_4 x_13_3 q_13 → V G 7 X A (w q_13 r) 0 0 (vM G X (fun v A2 h2 => v = some (.int (V_X5_findPrefixProof g m nl)) ∧ A2 = A ∧ h2 = w (S_X5_findPrefixProof g m nl) r) (vNoX) 0 0) 13 [(5, .int (nI i_13)), (4, .int (x_13_4)), (3, .int (x_13_3)), (0, .ref (A (4, 0))), (1, .int (m)), (2, .int (nl))] [] := by
    intro n
    induction n with
    | zero => intro i_13 x_13_4 x_13_3 q_13 hi_13 hc_13 hF_13 eV_13 eS_13; exact absurd hc_13 (by omega)
    | succ n ih =>
      intro i_13 x_13_4 x_13_3 q_13 hi_13 hc_13 hF_13 eV_13 eS_13
      have hq_13 : (nI i_13).toInt = (i_13 : Int) := nI_toInt (by omega)
      have hr_13 : (nI (i_13 + 1)).toInt = ((i_13 + 1 : Nat) : Int) := nI_toInt (by omega)
      refine v_iload (pc := 13) C dX5_findPrefixProof_13 0 rfl ?_
      refine v_bipush (v := 12) (pc := 15) C dX5_findPrefixProof_15 (by decide) ?_
      refine v_icmp_ge (pc := 17) (tgt := 106) C dX5_findPrefixProof_17 (by decide) (fun c_1 => ?_) (fun c_1 => ?_)
      · skip
        refine v_iload_n (pc := 106) C dX5_findPrefixProof_106 2 rfl rfl ?_
        refine v_if_le (pc := 107) (tgt := 125) C dX5_findPrefixProof_107 (by decide) (fun c_2 => ?_) (fun c_2 => ?_)
        · skip
          refine v_aload_n (pc := 125) C dX5_findPrefixProof_125 3 rfl rfl ?_
          refine v_get (pc := 126) C (4, 0) (v := .int ((q_13 15 0 0))) ck_4 rfl 3 (by decide) inX5 wd_113 rfl rfl dX5_findPrefixProof_126 ?_
          exact v_iret (pc := 129) C (by decide) (by decide) dX5_findPrefixProof_129 ⟨(congrArg (fun q => some (Value.int q)) (by show _ = _; rw [eV_13, VL_X5_findPrefixProof_13, if_pos c_1, if_pos c_2])), rfl, (congrArg (fun q => w q r) (by show _ = _; rw [eS_13, SL_X5_findPrefixProof_13, if_pos c_1, if_pos c_2]))⟩
        · skip
          refine v_aload_n (pc := 110) C dX5_findPrefixProof_110 3 rfl rfl ?_
          refine v_aload_n (pc := 111) C dX5_findPrefixProof_111 3 rfl rfl ?_
          refine v_get (pc := 112) C (4, 0) (v := .ref (A (5, 0))) ck_4 rfl 0 (by decide) inX5 wd_110 rfl rfl dX5_findPrefixProof_112 ?_
          refine v_iload_n (pc := 115) C dX5_findPrefixProof_115 2 rfl rfl ?_
          refine v_iload (pc := 116) C dX5_findPrefixProof_116 1 rfl ?_
          refine v_iconst (v := 0) (pc := 118) C dX5_findPrefixProof_118 rfl ?_
          refine v_callS (pc := 119) C (c_X5_rootOfRange hG (x_13_3) (x_13_4) (0) (by decide)) 4 wd_1057 wd_63 wd_1055 wd_1056 (by decide +kernel) (by decide) (by decide) rfl ([.ref (A (4, 0))]) rfl (Nat.le_of_ble_eq_true rfl) (by decide) dX5_findPrefixProof_119 (fun _ _ _ q => q.elim) (fun v9 A9 h9 hR9 => ?_)
          obtain ⟨rfl, hA9, rfl⟩ := hR9
          obtain rfl := hA9.symm
          refine v_st (k2 := 0) (n2 := 0) (st2 := [.int ((V_X5_rootOfRange q_13 (x_13_3) (x_13_4) (0))), .ref (A (4, 0))]) rfl rfl rfl ?_
          refine v_callV (pc := 122) C (4, 0) ck_4 rfl (c_X5_addToRow hG ((V_X5_rootOfRange q_13 (x_13_3) (x_13_4) (0))) ) 1 wd_1081 wd_63 wd_1078 wd_1080 wd_23 (by decide +kernel) (by decide) (by decide) rfl ([]) rfl (Nat.le_of_ble_eq_true rfl) (by decide) dX5_findPrefixProof_122 (fun _ _ _ q => q.elim) (fun v9 A9 h9 hR9 => ?_)
          obtain ⟨rfl, hA9, rfl⟩ := hR9
          obtain rfl := hA9.symm
          refine v_st (k2 := 0) (n2 := 0) (st2 := []) rfl rfl rfl ?_
          refine v_aload_n (pc := 125) C dX5_findPrefixProof_125 3 rfl rfl ?_
          refine v_get (pc := 126) C (4, 0) (v := .int (((S_X5_addToRow q_13 ((V_X5_rootOfRange q_13 (x_13_3) (x_13_4) (0)))) 15 0 0))) ck_4 rfl 3 (by decide) inX5 wd_113 rfl rfl dX5_findPrefixProof_126 ?_
          exact v_iret (pc := 129) C (by decide) (by decide) dX5_findPrefixProof_129 ⟨(congrArg (fun q => some (Value.int q)) (by show _ = _; rw [eV_13, VL_X5_findPrefixProof_13, if_pos c_1, if_neg c_2])), rfl, (congrArg (fun q => w q r) (by show _ = _; rw [eS_13, SL_X5_findPrefixProof_13, if_pos c_1, if_neg c_2]))⟩
      · skip
        refine v_iload_n (pc := 20) C dX5_findPrefixProof_20 2 rfl rfl ?_
        refine v_iload (pc := 21) C dX5_findPrefixProof_21 1 rfl ?_
        refine v_iadd (pc := 23) C dX5_findPrefixProof_23 ?_
        refine v_iload_n (pc := 24) C dX5_findPrefixProof_24 4 rfl rfl ?_
        refine v_icmp_eq (pc := 25) (tgt := 106) C dX5_findPrefixProof_25 (by decide) (fun c_3 => ?_) (fun c_3 => ?_)
        · skip
          refine v_iload_n (pc := 106) C dX5_findPrefixProof_106 2 rfl rfl ?_
          refine v_if_le (pc := 107) (tgt := 125) C dX5_findPrefixProof_107 (by decide) (fun c_4 => ?_) (fun c_4 => ?_)
          · skip
            refine v_aload_n (pc := 125) C dX5_findPrefixProof_125 3 rfl rfl ?_
            refine v_get (pc := 126) C (4, 0) (v := .int ((q_13 15 0 0))) ck_4 rfl 3 (by decide) inX5 wd_113 rfl rfl dX5_findPrefixProof_126 ?_
            exact v_iret (pc := 129) C (by decide) (by decide) dX5_findPrefixProof_129 ⟨(congrArg (fun q => some (Value.int q)) (by show _ = _; rw [eV_13, VL_X5_findPrefixProof_13, if_neg c_1, if_pos c_3, if_pos c_4])), rfl, (congrArg (fun q => w q r) (by show _ = _; rw [eS_13, SL_X5_findPrefixProof_13, if_neg c_1, if_pos c_3, if_pos c_4]))⟩
          · skip
            refine v_aload_n (pc := 110) C dX5_findPrefixProof_110 3 rfl rfl ?_
            refine v_aload_n (pc := 111) C dX5_findPrefixProof_111 3 rfl rfl ?_
            refine v_get (pc := 112) C (4, 0) (v := .ref (A (5, 0))) ck_4 rfl 0 (by decide) inX5 wd_110 rfl rfl dX5_findPrefixProof_112 ?_
            refine v_iload_n (pc := 115) C dX5_findPrefixProof_115 2 rfl rfl ?_
            refine v_iload (pc := 116) C dX5_findPrefixProof_116 1 rfl ?_
            refine v_iconst (v := 0) (pc := 118) C dX5_findPrefixProof_118 rfl ?_
            refine v_callS (pc := 119) C (c_X5_rootOfRange hG (x_13_3) (x_13_4) (0) (by decide)) 4 wd_1057 wd_63 wd_1055 wd_1056 (by decide +kernel) (by decide) (by decide) rfl ([.ref (A (4, 0))]) rfl (Nat.le_of_ble_eq_true rfl) (by decide) dX5_findPrefixProof_119 (fun _ _ _ q => q.elim) (fun v9 A9 h9 hR9 => ?_)
            obtain ⟨rfl, hA9, rfl⟩ := hR9
            obtain rfl := hA9.symm
            refine v_st (k2 := 0) (n2 := 0) (st2 := [.int ((V_X5_rootOfRange q_13 (x_13_3) (x_13_4) (0))), .ref (A (4, 0))]) rfl rfl rfl ?_
            refine v_callV (pc := 122) C (4, 0) ck_4 rfl (c_X5_addToRow hG ((V_X5_rootOfRange q_13 (x_13_3) (x_13_4) (0))) ) 1 wd_1081 wd_63 wd_1078 wd_1080 wd_23 (by decide +kernel) (by decide) (by decide) rfl ([]) rfl (Nat.le_of_ble_eq_true rfl) (by decide) dX5_findPrefixProof_122 (fun _ _ _ q => q.elim) (fun v9 A9 h9 hR9 => ?_)
            obtain ⟨rfl, hA9, rfl⟩ := hR9
            obtain rfl := hA9.symm
            refine v_st (k2 := 0) (n2 := 0) (st2 := []) rfl rfl rfl ?_
            refine v_aload_n (pc := 125) C dX5_findPrefixProof_125 3 rfl rfl ?_
            refine v_get (pc := 126) C (4, 0) (v := .int (((S_X5_addToRow q_13 ((V_X5_rootOfRange q_13 (x_13_3) (x_13_4) (0)))) 15 0 0))) ck_4 rfl 3 (by decide) inX5 wd_113 rfl rfl dX5_findPrefixProof_126 ?_
            exact v_iret (pc := 129) C (by decide) (by decide) dX5_findPrefixProof_129 ⟨(congrArg (fun q => some (Value.int q)) (by show _ = _; rw [eV_13, VL_X5_findPrefixProof_13, if_neg c_1, if_pos c_3, if_neg c_4])), rfl, (congrArg (fun q => w q r) (by show _ = _; rw [eS_13, SL_X5_findPrefixProof_13, if_neg c_1, if_pos c_3, if_neg c_4]))⟩
        · skip
          refine v_iload (pc := 28) C dX5_findPrefixProof_28 1 rfl ?_
          refine v_callS (pc := 30) C (c_X5_firstOnes hG (x_13_4) ) 1 wd_1061 wd_63 wd_1059 wd_1060 (by decide +kernel) (by decide) (by decide) rfl ([]) rfl (Nat.le_of_ble_eq_true rfl) (by decide) dX5_findPrefixProof_30 (fun _ _ _ q => q.elim) (fun v9 A9 h9 hR9 => ?_)
          obtain ⟨rfl, hA9, rfl⟩ := hR9
          obtain rfl := hA9.symm
          refine v_st (k2 := 0) (n2 := 0) (st2 := [.int ((V_X5_firstOnes q_13 (x_13_4)))]) rfl rfl rfl ?_
          refine v_istore (lv2 := [(6, .int ((V_X5_firstOnes q_13 (x_13_4)))), (5, .int (nI i_13)), (4, .int (x_13_4)), (3, .int (x_13_3)), (0, .ref (A (4, 0))), (1, .int (m)), (2, .int (nl))]) (pc := 33) C dX5_findPrefixProof_33 (by decide) rfl ?_
          refine v_iload_n (pc := 35) C dX5_findPrefixProof_35 5 rfl rfl ?_
          refine v_iload_n (pc := 36) C dX5_findPrefixProof_36 3 rfl rfl ?_
          refine v_iload (pc := 37) C dX5_findPrefixProof_37 0 rfl ?_
          refine v_iadd (pc := 39) C dX5_findPrefixProof_39 ?_
          refine v_icmp_gt (pc := 40) (tgt := 72) C dX5_findPrefixProof_40 (by decide) (fun c_5 => ?_) (fun c_5 => ?_)
          · skip
            refine v_aload_n (pc := 72) C dX5_findPrefixProof_72 4 rfl rfl ?_
            refine v_aload_n (pc := 73) C dX5_findPrefixProof_73 4 rfl rfl ?_
            refine v_get (pc := 74) C (4, 0) (v := .ref (A (5, 0))) ck_4 rfl 0 (by decide) inX5 wd_110 rfl rfl dX5_findPrefixProof_74 ?_
            refine v_iload_n (pc := 77) C dX5_findPrefixProof_77 3 rfl rfl ?_
            refine v_iload (pc := 78) C dX5_findPrefixProof_78 0 rfl ?_
            refine v_iload (pc := 80) C dX5_findPrefixProof_80 1 rfl ?_
            refine v_callS (pc := 82) C (c_X5_rootOfRange hG (x_13_3) ((V_X5_firstOnes q_13 (x_13_4))) (nI i_13) (by (try simp only [Int32.le_iff_toInt_le, Int32.lt_iff_toInt_lt, ← Int32.toInt_inj, vp_in_iff, Int32.reduceToInt] at c_1 c_3 c_5 hq_13 hr_13 ⊢) <;> omega)) 4 wd_1057 wd_63 wd_1055 wd_1056 (by decide +kernel) (by decide) (by decide) rfl ([.ref (A (4, 0))]) rfl (Nat.le_of_ble_eq_true rfl) (by decide) dX5_findPrefixProof_82 (fun _ _ _ q => q.elim) (fun v9 A9 h9 hR9 => ?_)
            obtain ⟨rfl, hA9, rfl⟩ := hR9
            obtain rfl := hA9.symm
            refine v_st (k2 := 0) (n2 := 0) (st2 := [.int ((V_X5_rootOfRange q_13 (x_13_3) ((V_X5_firstOnes q_13 (x_13_4))) (nI i_13))), .ref (A (4, 0))]) rfl rfl rfl ?_
            refine v_callV (pc := 85) C (4, 0) ck_4 rfl (c_X5_addToRow hG ((V_X5_rootOfRange q_13 (x_13_3) ((V_X5_firstOnes q_13 (x_13_4))) (nI i_13))) ) 1 wd_1081 wd_63 wd_1078 wd_1080 wd_23 (by decide +kernel) (by decide) (by decide) rfl ([]) rfl (Nat.le_of_ble_eq_true rfl) (by decide) dX5_findPrefixProof_85 (fun _ _ _ q => q.elim) (fun v9 A9 h9 hR9 => ?_)
            obtain ⟨rfl, hA9, rfl⟩ := hR9
            obtain rfl := hA9.symm
            refine v_st (k2 := 0) (n2 := 0) (st2 := []) rfl rfl rfl ?_
            refine v_iload_n (pc := 88) C dX5_findPrefixProof_88 3 rfl rfl ?_
            refine v_iload (pc := 89) C dX5_findPrefixProof_89 0 rfl ?_
            refine v_iadd (pc := 91) C dX5_findPrefixProof_91 ?_
            refine v_istore_n (lv2 := [(3, .int ((x_13_3 + (V_X5_firstOnes q_13 (x_13_4))))), (6, .int ((V_X5_firstOnes q_13 (x_13_4)))), (5, .int (nI i_13)), (4, .int (x_13_4)), (0, .ref (A (4, 0))), (1, .int (m)), (2, .int (nl))]) (pc := 92) C dX5_findPrefixProof_92 rfl (by decide) rfl ?_
            refine v_iload (pc := 93) C dX5_findPrefixProof_93 3 rfl ?_
            refine v_iload (pc := 95) C dX5_findPrefixProof_95 1 rfl ?_
            refine v_isub (pc := 97) C dX5_findPrefixProof_97 ?_
            refine v_istore (lv2 := [(4, .int ((x_13_4 - (V_X5_firstOnes q_13 (x_13_4))))), (3, .int ((x_13_3 + (V_X5_firstOnes q_13 (x_13_4))))), (6, .int ((V_X5_firstOnes q_13 (x_13_4)))), (5, .int (nI i_13)), (0, .ref (A (4, 0))), (1, .int (m)), (2, .int (nl))]) (pc := 98) C dX5_findPrefixProof_98 (by decide) rfl ?_
            refine v_iinc (v := nI (i_13 + 1)) (lv2 := [(5, .int (nI (i_13 + 1))), (4, .int ((x_13_4 - (V_X5_firstOnes q_13 (x_13_4))))), (3, .int ((x_13_3 + (V_X5_firstOnes q_13 (x_13_4))))), (6, .int ((V_X5_firstOnes q_13 (x_13_4)))), (0, .ref (A (4, 0))), (1, .int (m)), (2, .int (nl))]) (pc := 100) C dX5_findPrefixProof_100 3 rfl (nI_1 _) (by decide) rfl ?_
            refine v_goto (tgt := 13) (pc := 103) C dX5_findPrefixProof_103 (by decide) ?_
            refine v_lv (lv2 := [(5, .int (nI (i_13 + 1))), (4, .int ((x_13_4 - (V_X5_firstOnes q_13 (x_13_4))))), (3, .int ((x_13_3 + (V_X5_firstOnes q_13 (x_13_4))))), (0, .ref (A (4, 0))), (1, .int (m)), (2, .int (nl))]) [0, 1, 2, 4, 5, 6] rfl ?_
            exact ih (i_13 + 1) ((x_13_4 - (V_X5_firstOnes q_13 (x_13_4)))) ((x_13_3 + (V_X5_firstOnes q_13 (x_13_4)))) (S_X5_addToRow q_13 ((V_X5_rootOfRange q_13 (x_13_3) ((V_X5_firstOnes q_13 (x_13_4))) (nI i_13)))) (by (try simp only [Int32.le_iff_toInt_le, Int32.lt_iff_toInt_lt, ← Int32.toInt_inj, vp_in_iff, Int32.reduceToInt] at c_1 c_3 c_5 hq_13 hr_13 ⊢) <;> omega) (by omega) (fun c i j h15 h81 => (F_X5_addToRow h15 h81).trans (hF_13 c i j h15 h81)) (by rw [eV_13, VL_X5_findPrefixProof_13, if_neg c_1, if_neg c_3, if_pos c_5]) (by rw [eS_13, SL_X5_findPrefixProof_13, if_neg c_1, if_neg c_3, if_pos c_5])
          · skip
            refine v_aload_n (pc := 43) C dX5_findPrefixProof_43 4 rfl rfl ?_
            refine v_aload_n (pc := 44) C dX5_findPrefixProof_44 4 rfl rfl ?_
            refine v_get (pc := 45) C (4, 0) (v := .ref (A (5, 0))) ck_4 rfl 0 (by decide) inX5 wd_110 rfl rfl dX5_findPrefixProof_45 ?_
            refine v_iload_n (pc := 48) C dX5_findPrefixProof_48 3 rfl rfl ?_
            refine v_iload (pc := 49) C dX5_findPrefixProof_49 0 rfl ?_
            refine v_iadd (pc := 51) C dX5_findPrefixProof_51 ?_
            refine v_iload (pc := 52) C dX5_findPrefixProof_52 2 rfl ?_
            refine v_iload (pc := 54) C dX5_findPrefixProof_54 0 rfl ?_
            refine v_isub (pc := 56) C dX5_findPrefixProof_56 ?_
            refine v_iload (pc := 57) C dX5_findPrefixProof_57 1 rfl ?_
            refine v_callS (pc := 59) C (c_X5_rootOfRange hG ((x_13_3 + (V_X5_firstOnes q_13 (x_13_4)))) ((x_13_4 - (V_X5_firstOnes q_13 (x_13_4)))) (nI i_13) (by (try simp only [Int32.le_iff_toInt_le, Int32.lt_iff_toInt_lt, ← Int32.toInt_inj, vp_in_iff, Int32.reduceToInt] at c_1 c_3 c_5 hq_13 hr_13 ⊢) <;> omega)) 4 wd_1057 wd_63 wd_1055 wd_1056 (by decide +kernel) (by decide) (by decide) rfl ([.ref (A (4, 0))]) rfl (Nat.le_of_ble_eq_true rfl) (by decide) dX5_findPrefixProof_59 (fun _ _ _ q => q.elim) (fun v9 A9 h9 hR9 => ?_)
            obtain ⟨rfl, hA9, rfl⟩ := hR9
            obtain rfl := hA9.symm
            refine v_st (k2 := 0) (n2 := 0) (st2 := [.int ((V_X5_rootOfRange q_13 ((x_13_3 + (V_X5_firstOnes q_13 (x_13_4)))) ((x_13_4 - (V_X5_firstOnes q_13 (x_13_4)))) (nI i_13))), .ref (A (4, 0))]) rfl rfl rfl ?_
            refine v_callV (pc := 62) C (4, 0) ck_4 rfl (c_X5_addToRow hG ((V_X5_rootOfRange q_13 ((x_13_3 + (V_X5_firstOnes q_13 (x_13_4)))) ((x_13_4 - (V_X5_firstOnes q_13 (x_13_4)))) (nI i_13))) ) 1 wd_1081 wd_63 wd_1078 wd_1080 wd_23 (by decide +kernel) (by decide) (by decide) rfl ([]) rfl (Nat.le_of_ble_eq_true rfl) (by decide) dX5_findPrefixProof_62 (fun _ _ _ q => q.elim) (fun v9 A9 h9 hR9 => ?_)
            obtain ⟨rfl, hA9, rfl⟩ := hR9
            obtain rfl := hA9.symm
            refine v_st (k2 := 0) (n2 := 0) (st2 := []) rfl rfl rfl ?_
            refine v_iload (pc := 65) C dX5_findPrefixProof_65 0 rfl ?_
            refine v_istore (lv2 := [(4, .int ((V_X5_firstOnes q_13 (x_13_4)))), (6, .int ((V_X5_firstOnes q_13 (x_13_4)))), (5, .int (nI i_13)), (3, .int (x_13_3)), (0, .ref (A (4, 0))), (1, .int (m)), (2, .int (nl))]) (pc := 67) C dX5_findPrefixProof_67 (by decide) rfl ?_
            refine v_goto (tgt := 100) (pc := 69) C dX5_findPrefixProof_69 (by decide) ?_
            refine v_iinc (v := nI (i_13 + 1)) (lv2 := [(5, .int (nI (i_13 + 1))), (4, .int ((V_X5_firstOnes q_13 (x_13_4)))), (6, .int ((V_X5_firstOnes q_13 (x_13_4)))), (3, .int (x_13_3)), (0, .ref (A (4, 0))), (1, .int (m)), (2, .int (nl))]) (pc := 100) C dX5_findPrefixProof_100 2 rfl (nI_1 _) (by decide) rfl ?_
            refine v_goto (tgt := 13) (pc := 103) C dX5_findPrefixProof_103 (by decide) ?_
            refine v_lv (lv2 := [(5, .int (nI (i_13 + 1))), (4, .int ((V_X5_firstOnes q_13 (x_13_4)))), (3, .int (x_13_3)), (0, .ref (A (4, 0))), (1, .int (m)), (2, .int (nl))]) [0, 1, 3, 4, 5, 6] rfl ?_
            exact ih (i_13 + 1) ((V_X5_firstOnes q_13 (x_13_4))) (x_13_3) (S_X5_addToRow q_13 ((V_X5_rootOfRange q_13 ((x_13_3 + (V_X5_firstOnes q_13 (x_13_4)))) ((x_13_4 - (V_X5_firstOnes q_13 (x_13_4)))) (nI i_13)))) (by (try simp only [Int32.le_iff_toInt_le, Int32.lt_iff_toInt_lt, ← Int32.toInt_inj, vp_in_iff, Int32.reduceToInt] at c_1 c_3 c_5 hq_13 hr_13 ⊢) <;> omega) (by omega) (fun c i j h15 h81 => (F_X5_addToRow h15 h81).trans (hF_13 c i j h15 h81)) (by rw [eV_13, VL_X5_findPrefixProof_13, if_neg c_1, if_neg c_3, if_neg c_5]) (by rw [eS_13, SL_X5_findPrefixProof_13, if_neg c_1, if_neg c_3, if_neg c_5])
  exact L_13 (12 + 1) 0 (nl) (0) (s3 g 15 0 0 (0)) (by omega) (by omega) (fun c i j h15 h81 => s3_k h15) (by rw [V_X5_findPrefixProof]) (by rw [S_X5_findPrefixProof])
def VL_X10_endQuestion_7 (g : vS)  : Nat → Nat → vS → Int32
  | 0, _, _ => 0
  | n + 1, i_7, q_7 => (if 20 ≤ nI i_7 then (q_7 16 0 0) else (if (g 72 i_7 0) = 0 then (VL_X10_endQuestion_7 g n (i_7 + 1) q_7) else (if (q_7 16 0 0) < 0 then (VL_X10_endQuestion_7 g n (i_7 + 1) q_7) else (if 20 ≤ (q_7 16 0 0) then (VL_X10_endQuestion_7 g n (i_7 + 1) q_7) else (VL_X10_endQuestion_7 g n (i_7 + 1) (s3 (s3 q_7 73 ((q_7 16 0 0)).toNatClampNeg 0 (nI i_7)) 16 0 0 (((q_7 16 0 0) + 1))))))))
def SL_X10_endQuestion_7 (g : vS)  : Nat → Nat → vS → vS
  | 0, _, q9 => q9
  | n + 1, i_7, q_7 => (if 20 ≤ nI i_7 then (s3 (s3 q_7 9 0 0 (((g 9 0 0) + 1))) 8 0 0 (((g 8 0 0) + (q_7 16 0 0)))) else (if (g 72 i_7 0) = 0 then (SL_X10_endQuestion_7 g n (i_7 + 1) q_7) else (if (q_7 16 0 0) < 0 then (SL_X10_endQuestion_7 g n (i_7 + 1) q_7) else (if 20 ≤ (q_7 16 0 0) then (SL_X10_endQuestion_7 g n (i_7 + 1) q_7) else (SL_X10_endQuestion_7 g n (i_7 + 1) (s3 (s3 q_7 73 ((q_7 16 0 0)).toNatClampNeg 0 (nI i_7)) 16 0 0 (((q_7 16 0 0) + 1))))))))
def V_X10_endQuestion (g : vS)  : Int32 := (VL_X10_endQuestion_7 g (20 + 1) 0 (s3 g 16 0 0 (0)))
def S_X10_endQuestion (g : vS)  : vS := (SL_X10_endQuestion_7 g (20 + 1) 0 (s3 g 16 0 0 (0)))
theorem FL_X10_endQuestion_7 {g : vS}  {c i j : Nat} (h8 : c ≠ 8) (h9 : c ≠ 9) (h16 : c ≠ 16) (h73 : c ≠ 73) : ∀ (n : Nat) (a0 : Nat) (a1 : vS), a1 c i j = g c i j → SL_X10_endQuestion_7 g n a0 a1 c i j = g c i j := by
  intro n
  induction n with
  | zero => intro a0 a1 hq9; exact hq9
  | succ n ih =>
    intro a0 a1 hq9
    simp only [SL_X10_endQuestion_7]
    (repeat' split) <;> first | rfl | exact hq9 | (apply ih; first | exact hq9 | rfl | trivial | ((simp only [s3_k h8, s3_k h9, s3_k h16, s3_k h73]) <;> first | done | exact hq9 | rfl)) | ((simp only [s3_k h8, s3_k h9, s3_k h16, s3_k h73]) <;> first | done | exact hq9 | rfl)
theorem F_X10_endQuestion {g : vS}  {c i j : Nat} (h8 : c ≠ 8) (h9 : c ≠ 9) (h16 : c ≠ 16) (h73 : c ≠ 73) : S_X10_endQuestion g c i j = g c i j := by
  unfold S_X10_endQuestion
  (repeat' split) <;> first | rfl | (apply FL_X10_endQuestion_7 h8 h9 h16 h73; first | rfl | trivial | ((simp only [s3_k h8, s3_k h9, s3_k h16, s3_k h73]) <;> first | done | rfl)) | ((simp only [s3_k h8, s3_k h9, s3_k h16, s3_k h73]) <;> first | done | rfl)
set_option maxHeartbeats 4000000 in
set_option maxRecDepth 100000 in
theorem c_X10_endQuestion {G : vG} (hG : G.1.stackTraces = false) {A : vN → Nat} {g : vS} {r : vH}   : vCt G yX10_endQuestion cX10_endQuestion 2 (some .int) 0 [.ref (A (11, 0))] A (w g r) (fun v A2 h2 => v = some (.int (V_X10_endQuestion g)) ∧ A2 = A ∧ h2 = w (S_X10_endQuestion g) r) (vNoX) 0 0 := by
  refine v_of hG (by decide +kernel) (Nat.le_of_ble_eq_true rfl) (lv := [(0, .ref (A (11, 0)))]) rfl (fun X C hnx => ?_)
  have C : vC G X cX10_endQuestion 2 RX10 (some .int) "endQuestion" 0 0 0 := C
  refine v_aload_n (pc := 0) C dX10_endQuestion_0 0 rfl rfl ?_
  refine v_iconst (v := 0) (pc := 1) C dX10_endQuestion_1 rfl ?_
  refine v_put (pc := 2) C (11, 0) (v := .int (0)) ck_11 rfl 10 (by decide) inX10 tyX10 tyX10_ok nmX10 wd_180 rfl (.inl (Value.int (0))) rfl (ty := tyX10 10) (by decide +kernel) rfl rfl (Nat.le_of_ble_eq_true rfl) dX10_endQuestion_2 ?_
  refine v_h (h2 := (w (s3 g 16 0 0 (0)) r)) (u_11_10) ?_
  refine v_iconst (v := 0) (pc := 5) C dX10_endQuestion_5 rfl ?_
  refine v_istore_n (lv2 := [(1, .int (0)), (0, .ref (A (11, 0)))]) (pc := 6) C dX10_endQuestion_6 rfl (by decide) rfl ?_
  have L_7 : ∀ (n : Nat) (i_7 : Nat) (q_7 : vS), i_7 ≤ 20 → 20 + 1 ≤ i_7 + n → (∀ (c i j : Nat), c ≠ 16 → c ≠ 73 → q_7 c i j = g c i j) → (V_X10_endQuestion g) = VL_X10_endQuestion_7 g n i_7 q_7 → (S_X10_endQuestion g) = SL_X10_endQuestion_7 g n i_7 q_7 → V G 2 X A (w q_7 r) 0 0 (vM G X (fun v A2 h2 => v = some (.int (V_X10_endQuestion g)) ∧ A2 = A ∧ h2 = w (S_X10_endQuestion g) r) (vNoX) 0 0) 7 [(1, .int (nI i_7)), (0, .ref (A (11, 0)))] [] := by
    intro n
    induction n with
    | zero => intro i_7 q_7 hi_7 hc_7 hF_7 eV_7 eS_7; exact absurd hc_7 (by omega)
    | succ n ih =>
      intro i_7 q_7 hi_7 hc_7 hF_7 eV_7 eS_7
      have hq_7 : (nI i_7).toInt = (i_7 : Int) := nI_toInt (by omega)
      have hr_7 : (nI (i_7 + 1)).toInt = ((i_7 + 1 : Nat) : Int) := nI_toInt (by omega)
      refine v_iload_n (pc := 7) C dX10_endQuestion_7 0 rfl rfl ?_
      refine v_aload_n (pc := 8) C dX10_endQuestion_8 1 rfl rfl ?_
      refine v_get (pc := 9) C (11, 0) (v := .ref (A (16, 0))) ck_11 rfl 7 (by decide) inX10 wd_177 rfl rfl dX10_endQuestion_9 ?_
      refine v_alen (pc := 12) C (16, 0) (v := 20) ck_16 rfl (by decide) dX10_endQuestion_12 ?_
      refine v_icmp_ge (pc := 13) (tgt := 70) C dX10_endQuestion_13 (by decide) (fun c_1 => ?_) (fun c_1 => ?_)
      · skip
        refine v_aload_n (pc := 70) C dX10_endQuestion_70 1 rfl rfl ?_
        refine v_dup (pc := 71) C dX10_endQuestion_71 rfl ?_
        refine v_get (pc := 72) C (11, 0) (v := .int ((g 9 0 0))) ck_11 rfl 3 (by decide) inX10 wd_172 rfl (congrArg Value.int (hF_7 _ _ _ (by decide) (by decide))) dX10_endQuestion_72 ?_
        refine v_iconst (v := 1) (pc := 75) C dX10_endQuestion_75 rfl ?_
        refine v_iadd (pc := 76) C dX10_endQuestion_76 ?_
        refine v_put (pc := 77) C (11, 0) (v := .int (((g 9 0 0) + 1))) ck_11 rfl 3 (by decide) inX10 tyX10 tyX10_ok nmX10 wd_172 rfl (.inl (Value.int (((g 9 0 0) + 1)))) rfl (ty := tyX10 3) (by decide +kernel) rfl rfl (Nat.le_of_ble_eq_true rfl) dX10_endQuestion_77 ?_
        refine v_h (h2 := (w (s3 q_7 9 0 0 (((g 9 0 0) + 1))) r)) (u_11_3) ?_
        refine v_aload_n (pc := 80) C dX10_endQuestion_80 1 rfl rfl ?_
        refine v_dup (pc := 81) C dX10_endQuestion_81 rfl ?_
        refine v_get (pc := 82) C (11, 0) (v := .int ((g 8 0 0))) ck_11 rfl 2 (by decide) inX10 wd_170 rfl (congrArg Value.int ((s3_k (by decide)).trans (hF_7 _ _ _ (by decide) (by decide)))) dX10_endQuestion_82 ?_
        refine v_aload_n (pc := 85) C dX10_endQuestion_85 1 rfl rfl ?_
        refine v_get (pc := 86) C (11, 0) (v := .int ((q_7 16 0 0))) ck_11 rfl 10 (by decide) inX10 wd_180 rfl rfl dX10_endQuestion_86 ?_
        refine v_iadd (pc := 89) C dX10_endQuestion_89 ?_
        refine v_put (pc := 90) C (11, 0) (v := .int (((g 8 0 0) + (q_7 16 0 0)))) ck_11 rfl 2 (by decide) inX10 tyX10 tyX10_ok nmX10 wd_170 rfl (.inl (Value.int (((g 8 0 0) + (q_7 16 0 0))))) rfl (ty := tyX10 2) (by decide +kernel) rfl rfl (Nat.le_of_ble_eq_true rfl) dX10_endQuestion_90 ?_
        refine v_h (h2 := (w (s3 (s3 q_7 9 0 0 (((g 9 0 0) + 1))) 8 0 0 (((g 8 0 0) + (q_7 16 0 0)))) r)) (u_11_2) ?_
        refine v_aload_n (pc := 93) C dX10_endQuestion_93 1 rfl rfl ?_
        refine v_get (pc := 94) C (11, 0) (v := .int ((q_7 16 0 0))) ck_11 rfl 10 (by decide) inX10 wd_180 rfl rfl dX10_endQuestion_94 ?_
        exact v_iret (pc := 97) C (by decide) (by decide) dX10_endQuestion_97 ⟨(congrArg (fun q => some (Value.int q)) (by show _ = _; rw [eV_7, VL_X10_endQuestion_7, if_pos c_1])), rfl, (congrArg (fun q => w q r) (by show _ = _; rw [eS_7, SL_X10_endQuestion_7, if_pos c_1]))⟩
      · skip
        refine v_aload_n (pc := 16) C dX10_endQuestion_16 1 rfl rfl ?_
        refine v_get (pc := 17) C (11, 0) (v := .ref (A (16, 0))) ck_11 rfl 7 (by decide) inX10 wd_177 rfl rfl dX10_endQuestion_17 ?_
        refine v_iload_n (pc := 20) C dX10_endQuestion_20 0 rfl rfl ?_
        refine v_zald (pc := 21) C (16, 0) (v := (g 72 i_7 0)) ck_16 (by (try simp only [Int32.le_iff_toInt_le, Int32.lt_iff_toInt_lt, ← Int32.toInt_inj, vp_in_iff, Int32.reduceToInt] at c_1 hq_7 hr_7 ⊢) <;> omega) ((congrArg (fun k => q_7 72 k 0) (show (nI i_7 : Int32).toNatClampNeg = i_7 from (nI_clamp (by omega)))).trans (hF_7 _ _ _ (by decide) (by decide))) dX10_endQuestion_21 ?_
        refine v_if_eq (pc := 22) (tgt := 64) C dX10_endQuestion_22 (by decide) (fun c_2 => ?_) (fun c_2 => ?_)
        · skip
          refine v_iinc (v := nI (i_7 + 1)) (lv2 := [(1, .int (nI (i_7 + 1))), (0, .ref (A (11, 0)))]) (pc := 64) C dX10_endQuestion_64 0 rfl (nI_1 _) (by decide) rfl ?_
          refine v_goto (tgt := 7) (pc := 67) C dX10_endQuestion_67 (by decide) ?_
          refine v_lv (lv2 := [(1, .int (nI (i_7 + 1))), (0, .ref (A (11, 0)))]) [0, 1] rfl ?_
          exact ih (i_7 + 1) q_7 (by (try simp only [Int32.le_iff_toInt_le, Int32.lt_iff_toInt_lt, ← Int32.toInt_inj, vp_in_iff, Int32.reduceToInt] at c_1 c_2 hq_7 hr_7 ⊢) <;> omega) (by omega) (fun c i j h16 h73 => hF_7 c i j h16 h73) (by rw [eV_7, VL_X10_endQuestion_7, if_neg c_1, if_pos c_2]) (by rw [eS_7, SL_X10_endQuestion_7, if_neg c_1, if_pos c_2])
        · skip
          refine v_aload_n (pc := 25) C dX10_endQuestion_25 1 rfl rfl ?_
          refine v_get (pc := 26) C (11, 0) (v := .int ((q_7 16 0 0))) ck_11 rfl 10 (by decide) inX10 wd_180 rfl rfl dX10_endQuestion_26 ?_
          refine v_if_lt (pc := 29) (tgt := 64) C dX10_endQuestion_29 (by decide) (fun c_3 => ?_) (fun c_3 => ?_)
          · skip
            refine v_iinc (v := nI (i_7 + 1)) (lv2 := [(1, .int (nI (i_7 + 1))), (0, .ref (A (11, 0)))]) (pc := 64) C dX10_endQuestion_64 0 rfl (nI_1 _) (by decide) rfl ?_
            refine v_goto (tgt := 7) (pc := 67) C dX10_endQuestion_67 (by decide) ?_
            refine v_lv (lv2 := [(1, .int (nI (i_7 + 1))), (0, .ref (A (11, 0)))]) [0, 1] rfl ?_
            exact ih (i_7 + 1) q_7 (by (try simp only [Int32.le_iff_toInt_le, Int32.lt_iff_toInt_lt, ← Int32.toInt_inj, vp_in_iff, Int32.reduceToInt] at c_1 c_2 c_3 hq_7 hr_7 ⊢) <;> omega) (by omega) (fun c i j h16 h73 => hF_7 c i j h16 h73) (by rw [eV_7, VL_X10_endQuestion_7, if_neg c_1, if_neg c_2, if_pos c_3]) (by rw [eS_7, SL_X10_endQuestion_7, if_neg c_1, if_neg c_2, if_pos c_3])
          · skip
            refine v_aload_n (pc := 32) C dX10_endQuestion_32 1 rfl rfl ?_
            refine v_get (pc := 33) C (11, 0) (v := .int ((q_7 16 0 0))) ck_11 rfl 10 (by decide) inX10 wd_180 rfl rfl dX10_endQuestion_33 ?_
            refine v_aload_n (pc := 36) C dX10_endQuestion_36 1 rfl rfl ?_
            refine v_get (pc := 37) C (11, 0) (v := .ref (A (17, 0))) ck_11 rfl 8 (by decide) inX10 wd_178 rfl rfl dX10_endQuestion_37 ?_
            refine v_alen (pc := 40) C (17, 0) (v := 20) ck_17 rfl (by decide) dX10_endQuestion_40 ?_
            refine v_icmp_ge (pc := 41) (tgt := 64) C dX10_endQuestion_41 (by decide) (fun c_4 => ?_) (fun c_4 => ?_)
            · skip
              refine v_iinc (v := nI (i_7 + 1)) (lv2 := [(1, .int (nI (i_7 + 1))), (0, .ref (A (11, 0)))]) (pc := 64) C dX10_endQuestion_64 0 rfl (nI_1 _) (by decide) rfl ?_
              refine v_goto (tgt := 7) (pc := 67) C dX10_endQuestion_67 (by decide) ?_
              refine v_lv (lv2 := [(1, .int (nI (i_7 + 1))), (0, .ref (A (11, 0)))]) [0, 1] rfl ?_
              exact ih (i_7 + 1) q_7 (by (try simp only [Int32.le_iff_toInt_le, Int32.lt_iff_toInt_lt, ← Int32.toInt_inj, vp_in_iff, Int32.reduceToInt] at c_1 c_2 c_3 c_4 hq_7 hr_7 ⊢) <;> omega) (by omega) (fun c i j h16 h73 => hF_7 c i j h16 h73) (by rw [eV_7, VL_X10_endQuestion_7, if_neg c_1, if_neg c_2, if_neg c_3, if_pos c_4]) (by rw [eS_7, SL_X10_endQuestion_7, if_neg c_1, if_neg c_2, if_neg c_3, if_pos c_4])
            · skip
              refine v_aload_n (pc := 44) C dX10_endQuestion_44 1 rfl rfl ?_
              refine v_get (pc := 45) C (11, 0) (v := .ref (A (17, 0))) ck_11 rfl 8 (by decide) inX10 wd_178 rfl rfl dX10_endQuestion_45 ?_
              refine v_aload_n (pc := 48) C dX10_endQuestion_48 1 rfl rfl ?_
              refine v_get (pc := 49) C (11, 0) (v := .int ((q_7 16 0 0))) ck_11 rfl 10 (by decide) inX10 wd_180 rfl rfl dX10_endQuestion_49 ?_
              refine v_iload_n (pc := 52) C dX10_endQuestion_52 0 rfl rfl ?_
              refine v_iast (pc := 53) C (17, 0) (x := nI i_7) ck_17 (by (try simp only [Int32.le_iff_toInt_le, Int32.lt_iff_toInt_lt, ← Int32.toInt_inj, vp_in_iff, Int32.reduceToInt] at c_1 c_2 c_3 c_4 hq_7 hr_7 ⊢) <;> omega) dX10_endQuestion_53 ?_
              refine v_h (h2 := (w (s3 q_7 73 ((q_7 16 0 0)).toNatClampNeg 0 (nI i_7)) r)) (u_17_a) ?_
              refine v_aload_n (pc := 54) C dX10_endQuestion_54 1 rfl rfl ?_
              refine v_dup (pc := 55) C dX10_endQuestion_55 rfl ?_
              refine v_get (pc := 56) C (11, 0) (v := .int ((q_7 16 0 0))) ck_11 rfl 10 (by decide) inX10 wd_180 rfl rfl dX10_endQuestion_56 ?_
              refine v_iconst (v := 1) (pc := 59) C dX10_endQuestion_59 rfl ?_
              refine v_iadd (pc := 60) C dX10_endQuestion_60 ?_
              refine v_put (pc := 61) C (11, 0) (v := .int (((q_7 16 0 0) + 1))) ck_11 rfl 10 (by decide) inX10 tyX10 tyX10_ok nmX10 wd_180 rfl (.inl (Value.int (((q_7 16 0 0) + 1)))) rfl (ty := tyX10 10) (by decide +kernel) rfl rfl (Nat.le_of_ble_eq_true rfl) dX10_endQuestion_61 ?_
              refine v_h (h2 := (w (s3 (s3 q_7 73 ((q_7 16 0 0)).toNatClampNeg 0 (nI i_7)) 16 0 0 (((q_7 16 0 0) + 1))) r)) (u_11_10) ?_
              refine v_iinc (v := nI (i_7 + 1)) (lv2 := [(1, .int (nI (i_7 + 1))), (0, .ref (A (11, 0)))]) (pc := 64) C dX10_endQuestion_64 0 rfl (nI_1 _) (by decide) rfl ?_
              refine v_goto (tgt := 7) (pc := 67) C dX10_endQuestion_67 (by decide) ?_
              refine v_lv (lv2 := [(1, .int (nI (i_7 + 1))), (0, .ref (A (11, 0)))]) [0, 1] rfl ?_
              exact ih (i_7 + 1) (s3 (s3 q_7 73 ((q_7 16 0 0)).toNatClampNeg 0 (nI i_7)) 16 0 0 (((q_7 16 0 0) + 1))) (by (try simp only [Int32.le_iff_toInt_le, Int32.lt_iff_toInt_lt, ← Int32.toInt_inj, vp_in_iff, Int32.reduceToInt] at c_1 c_2 c_3 c_4 hq_7 hr_7 ⊢) <;> omega) (by omega) (fun c i j h16 h73 => (s3_k h16).trans ((s3_k h73).trans (hF_7 c i j h16 h73))) (by rw [eV_7, VL_X10_endQuestion_7, if_neg c_1, if_neg c_2, if_neg c_3, if_neg c_4]) (by rw [eS_7, SL_X10_endQuestion_7, if_neg c_1, if_neg c_2, if_neg c_3, if_neg c_4])
  exact L_7 (20 + 1) 0 (s3 g 16 0 0 (0)) (by omega) (by omega) (fun c i j h16 h73 => s3_k h16) (by rw [V_X10_endQuestion]) (by rw [S_X10_endQuestion])
def X_X11_root (g : vS) (nl : Int32) : Nat := (if (X_X11_needLeaves g (nl)) = 0 then 0 else (X_X11_needLeaves g (nl)))
def V_X11_root (g : vS) (nl : Int32) : Int32 := (if (X_X11_needLeaves g (nl)) = 0 then (V_X5_rootOf g (nl)) else 0)
set_option maxHeartbeats 4000000 in
set_option maxRecDepth 100000 in
theorem c_X11_root {G : vG} (hG : G.1.stackTraces = false) {A : vN → Nat} {g : vS} {r : vH} (nl : Int32)  : vCt G yX11_root cX11_root 2 (some .int) 17 [.ref (A (0, 0)), .int (nl)] A (w g r) (fun v A2 h2 => X_X11_root g nl = 0 ∧ v = some (.int (V_X11_root g nl)) ∧ A2 = A ∧ h2 = w g r) (fun cls A2 h2 => X_X11_root g nl ≠ 0 ∧ cls = vEx (X_X11_root g nl) ∧ A2 = A ∧ h2 = w g r) 1 6 := by
  refine v_of hG (by decide +kernel) (Nat.le_of_ble_eq_true rfl) (lv := [(0, .ref (A (0, 0))), (1, .int (nl))]) rfl (fun X C hnx => ?_)
  have C : vC G X cX11_root 2 RX11 (some .int) "root" 17 1 6 := C
  refine v_aload_n (pc := 0) C dX11_root_0 0 rfl rfl ?_
  refine v_iload_n (pc := 1) C dX11_root_1 1 rfl rfl ?_
  refine v_callV (pc := 2) C (0, 0) ck_0 rfl (c_X11_needLeaves hG (nl) ) 1 wd_1049 wd_62 wd_1046 wd_1048 wd_21 (by decide +kernel) (by decide) (by decide) rfl ([]) rfl (Nat.le_of_ble_eq_true rfl) (by decide) dX11_root_2 (fun cls9 A9 h9 hE9 => by obtain ⟨q9, rfl, rfl, rfl⟩ := hE9; exact v_out C hnx ⟨(by rw [show (X_X11_root g nl) = (X_X11_needLeaves g (nl)) from (by rw [X_X11_root, if_neg q9])]; exact q9), (by rw [show (X_X11_root g nl) = (X_X11_needLeaves g (nl)) from (by rw [X_X11_root, if_neg q9])]), rfl, rfl⟩ (by decide) (by decide)) (fun v9 A9 h9 hR9 => ?_)
  obtain ⟨x_1, rfl, hA9, rfl⟩ := hR9
  obtain rfl := hA9.symm
  refine v_st (k2 := 1) (n2 := 6) (st2 := []) rfl rfl rfl ?_
  refine v_aload_n (pc := 5) C dX11_root_5 0 rfl rfl ?_
  refine v_get (pc := 6) C (0, 0) (v := .ref (A (4, 0))) ck_0 rfl 3 (by decide) inX11 wd_223 rfl rfl dX11_root_6 ?_
  refine v_iload_n (pc := 9) C dX11_root_9 1 rfl rfl ?_
  refine v_callV (pc := 10) C (4, 0) ck_4 rfl (c_X5_rootOf hG (nl) ) 1 wd_1054 wd_63 wd_1051 wd_1052 wd_1053 (by decide +kernel) (by decide) (by decide) rfl ([]) rfl (Nat.le_of_ble_eq_true rfl) (by decide) dX11_root_10 (fun _ _ _ q => q.elim) (fun v9 A9 h9 hR9 => ?_)
  obtain ⟨rfl, hA9, rfl⟩ := hR9
  obtain rfl := hA9.symm
  refine v_st (k2 := 1) (n2 := 6) (st2 := [.int ((V_X5_rootOf g (nl)))]) rfl rfl rfl ?_
  exact v_iret (pc := 13) C (by decide) (by decide) dX11_root_13 ⟨(by rw [X_X11_root, if_pos x_1]), (congrArg (fun q => some (Value.int q)) (by show _ = _; rw [V_X11_root, if_pos x_1])), rfl, rfl⟩
def X_X11_proofLength (g : vS) (nl : Int32) (x : Int32) : Nat := (if (X_X11_needLeafAmong g (nl) (x)) = 0 then 0 else (X_X11_needLeafAmong g (nl) (x)))
def V_X11_proofLength (g : vS) (nl : Int32) (x : Int32) : Int32 := (if (X_X11_needLeafAmong g (nl) (x)) = 0 then (V_X5_findProof g (nl) (x)) else 0)
def S_X11_proofLength (g : vS) (nl : Int32) (x : Int32) : vS := (if (X_X11_needLeafAmong g (nl) (x)) = 0 then (S_X5_findProof g (nl) (x)) else g)
theorem F_X11_proofLength {g : vS} {nl : Int32} {x : Int32} {c i j : Nat} (h15 : c ≠ 15) (h81 : c ≠ 81) : S_X11_proofLength g nl x c i j = g c i j := by
  unfold S_X11_proofLength
  (repeat' split) <;> first | rfl | ((simp only [s3_k h15, s3_k h81, F_X5_findProof h15 h81]) <;> first | done | rfl)
set_option maxHeartbeats 4000000 in
set_option maxRecDepth 100000 in
theorem c_X11_proofLength {G : vG} (hG : G.1.stackTraces = false) {A : vN → Nat} {g : vS} {r : vH} (nl : Int32) (x : Int32)  : vCt G yX11_proofLength cX11_proofLength 3 (some .int) 17 [.ref (A (0, 0)), .int (nl), .int (x)] A (w g r) (fun v A2 h2 => X_X11_proofLength g nl x = 0 ∧ v = some (.int (V_X11_proofLength g nl x)) ∧ A2 = A ∧ h2 = w (S_X11_proofLength g nl x) r) (fun cls A2 h2 => X_X11_proofLength g nl x ≠ 0 ∧ cls = vEx (X_X11_proofLength g nl x) ∧ A2 = A ∧ h2 = w (S_X11_proofLength g nl x) r) 2 12 := by
  refine v_of hG (by decide +kernel) (Nat.le_of_ble_eq_true rfl) (lv := [(0, .ref (A (0, 0))), (1, .int (nl)), (2, .int (x))]) rfl (fun X C hnx => ?_)
  have C : vC G X cX11_proofLength 3 RX11 (some .int) "proofLength" 17 2 12 := C
  refine v_aload_n (pc := 0) C dX11_proofLength_0 0 rfl rfl ?_
  refine v_iload_n (pc := 1) C dX11_proofLength_1 1 rfl rfl ?_
  refine v_iload_n (pc := 2) C dX11_proofLength_2 2 rfl rfl ?_
  refine v_callV (pc := 3) C (0, 0) ck_0 rfl (c_X11_needLeafAmong hG (nl) (x) ) 2 wd_1072 wd_62 wd_1069 wd_1071 wd_22 (by decide +kernel) (by decide) (by decide) rfl ([]) rfl (Nat.le_of_ble_eq_true rfl) (by decide) dX11_proofLength_3 (fun cls9 A9 h9 hE9 => by obtain ⟨q9, rfl, rfl, rfl⟩ := hE9; exact v_out C hnx ⟨(by rw [show (X_X11_proofLength g nl x) = (X_X11_needLeafAmong g (nl) (x)) from (by rw [X_X11_proofLength, if_neg q9])]; exact q9), (by rw [show (X_X11_proofLength g nl x) = (X_X11_needLeafAmong g (nl) (x)) from (by rw [X_X11_proofLength, if_neg q9])]), rfl, (congrArg (fun q => w q r) (by show _ = _; rw [S_X11_proofLength, if_neg q9]))⟩ (by decide) (by decide)) (fun v9 A9 h9 hR9 => ?_)
  obtain ⟨x_1, rfl, hA9, rfl⟩ := hR9
  obtain rfl := hA9.symm
  refine v_st (k2 := 2) (n2 := 12) (st2 := []) rfl rfl rfl ?_
  refine v_aload_n (pc := 6) C dX11_proofLength_6 0 rfl rfl ?_
  refine v_get (pc := 7) C (0, 0) (v := .ref (A (4, 0))) ck_0 rfl 3 (by decide) inX11 wd_223 rfl rfl dX11_proofLength_7 ?_
  refine v_iload_n (pc := 10) C dX11_proofLength_10 1 rfl rfl ?_
  refine v_iload_n (pc := 11) C dX11_proofLength_11 2 rfl rfl ?_
  refine v_callV (pc := 12) C (4, 0) ck_4 rfl (c_X5_findProof hG (nl) (x) ) 2 wd_1077 wd_63 wd_1074 wd_1075 wd_1076 (by decide +kernel) (by decide) (by decide) rfl ([]) rfl (Nat.le_of_ble_eq_true rfl) (by decide) dX11_proofLength_12 (fun _ _ _ q => q.elim) (fun v9 A9 h9 hR9 => ?_)
  obtain ⟨rfl, hA9, rfl⟩ := hR9
  obtain rfl := hA9.symm
  refine v_st (k2 := 2) (n2 := 12) (st2 := [.int ((V_X5_findProof g (nl) (x)))]) rfl rfl rfl ?_
  exact v_iret (pc := 15) C (by decide) (by decide) dX11_proofLength_15 ⟨(by rw [X_X11_proofLength, if_pos x_1]), (congrArg (fun q => some (Value.int q)) (by show _ = _; rw [V_X11_proofLength, if_pos x_1])), rfl, (congrArg (fun q => w q r) (by show _ = _; rw [S_X11_proofLength, if_pos x_1]))⟩
def X_X11_prefixLength (g : vS) (m : Int32) (nl : Int32) : Nat := (if (X_X11_needPrefix g (m) (nl)) = 0 then 0 else (X_X11_needPrefix g (m) (nl)))
def V_X11_prefixLength (g : vS) (m : Int32) (nl : Int32) : Int32 := (if (X_X11_needPrefix g (m) (nl)) = 0 then (V_X5_findPrefixProof g (m) (nl)) else 0)
def S_X11_prefixLength (g : vS) (m : Int32) (nl : Int32) : vS := (if (X_X11_needPrefix g (m) (nl)) = 0 then (S_X5_findPrefixProof g (m) (nl)) else g)
theorem F_X11_prefixLength {g : vS} {m : Int32} {nl : Int32} {c i j : Nat} (h15 : c ≠ 15) (h81 : c ≠ 81) : S_X11_prefixLength g m nl c i j = g c i j := by
  unfold S_X11_prefixLength
  (repeat' split) <;> first | rfl | ((simp only [s3_k h15, s3_k h81, F_X5_findPrefixProof h15 h81]) <;> first | done | rfl)
set_option maxHeartbeats 4000000 in
set_option maxRecDepth 100000 in
theorem c_X11_prefixLength {G : vG} (hG : G.1.stackTraces = false) {A : vN → Nat} {g : vS} {r : vH} (m : Int32) (nl : Int32)  : vCt G yX11_prefixLength cX11_prefixLength 3 (some .int) 17 [.ref (A (0, 0)), .int (m), .int (nl)] A (w g r) (fun v A2 h2 => X_X11_prefixLength g m nl = 0 ∧ v = some (.int (V_X11_prefixLength g m nl)) ∧ A2 = A ∧ h2 = w (S_X11_prefixLength g m nl) r) (fun cls A2 h2 => X_X11_prefixLength g m nl ≠ 0 ∧ cls = vEx (X_X11_prefixLength g m nl) ∧ A2 = A ∧ h2 = w (S_X11_prefixLength g m nl) r) 2 12 := by
  refine v_of hG (by decide +kernel) (Nat.le_of_ble_eq_true rfl) (lv := [(0, .ref (A (0, 0))), (1, .int (m)), (2, .int (nl))]) rfl (fun X C hnx => ?_)
  have C : vC G X cX11_prefixLength 3 RX11 (some .int) "prefixLength" 17 2 12 := C
  refine v_aload_n (pc := 0) C dX11_prefixLength_0 0 rfl rfl ?_
  refine v_iload_n (pc := 1) C dX11_prefixLength_1 1 rfl rfl ?_
  refine v_iload_n (pc := 2) C dX11_prefixLength_2 2 rfl rfl ?_
  refine v_callV (pc := 3) C (0, 0) ck_0 rfl (c_X11_needPrefix hG (m) (nl) ) 2 wd_1108 wd_62 wd_1105 wd_1107 wd_25 (by decide +kernel) (by decide) (by decide) rfl ([]) rfl (Nat.le_of_ble_eq_true rfl) (by decide) dX11_prefixLength_3 (fun cls9 A9 h9 hE9 => by obtain ⟨q9, rfl, rfl, rfl⟩ := hE9; exact v_out C hnx ⟨(by rw [show (X_X11_prefixLength g m nl) = (X_X11_needPrefix g (m) (nl)) from (by rw [X_X11_prefixLength, if_neg q9])]; exact q9), (by rw [show (X_X11_prefixLength g m nl) = (X_X11_needPrefix g (m) (nl)) from (by rw [X_X11_prefixLength, if_neg q9])]), rfl, (congrArg (fun q => w q r) (by show _ = _; rw [S_X11_prefixLength, if_neg q9]))⟩ (by decide) (by decide)) (fun v9 A9 h9 hR9 => ?_)
  obtain ⟨x_1, rfl, hA9, rfl⟩ := hR9
  obtain rfl := hA9.symm
  refine v_st (k2 := 2) (n2 := 12) (st2 := []) rfl rfl rfl ?_
  refine v_aload_n (pc := 6) C dX11_prefixLength_6 0 rfl rfl ?_
  refine v_get (pc := 7) C (0, 0) (v := .ref (A (4, 0))) ck_0 rfl 3 (by decide) inX11 wd_223 rfl rfl dX11_prefixLength_7 ?_
  refine v_iload_n (pc := 10) C dX11_prefixLength_10 1 rfl rfl ?_
  refine v_iload_n (pc := 11) C dX11_prefixLength_11 2 rfl rfl ?_
  refine v_callV (pc := 12) C (4, 0) ck_4 rfl (c_X5_findPrefixProof hG (m) (nl) ) 2 wd_1113 wd_63 wd_1110 wd_1111 wd_1112 (by decide +kernel) (by decide) (by decide) rfl ([]) rfl (Nat.le_of_ble_eq_true rfl) (by decide) dX11_prefixLength_12 (fun _ _ _ q => q.elim) (fun v9 A9 h9 hR9 => ?_)
  obtain ⟨rfl, hA9, rfl⟩ := hR9
  obtain rfl := hA9.symm
  refine v_st (k2 := 2) (n2 := 12) (st2 := [.int ((V_X5_findPrefixProof g (m) (nl)))]) rfl rfl rfl ?_
  exact v_iret (pc := 15) C (by decide) (by decide) dX11_prefixLength_15 ⟨(by rw [X_X11_prefixLength, if_pos x_1]), (congrArg (fun q => some (Value.int q)) (by show _ = _; rw [V_X11_prefixLength, if_pos x_1])), rfl, (congrArg (fun q => w q r) (by show _ = _; rw [S_X11_prefixLength, if_pos x_1]))⟩
def X_X11_proofNumber (g : vS) (l : Int32) (x : Int32) : Nat := (if x < 0 then 5 else (if x < l then 0 else 5))
def V_X11_proofNumber (g : vS) (l : Int32) (x : Int32) : Int32 := (if x < 0 then 0 else (if x < l then (V_X5_rowAt g (x)) else 0))
set_option maxHeartbeats 4000000 in
set_option maxRecDepth 100000 in
theorem c_X11_proofNumber {G : vG} (hG : G.1.stackTraces = false) {A : vN → Nat} {g : vS} {r : vH} (l : Int32) (x : Int32)  : vCt G yX11_proofNumber cX11_proofNumber 3 (some .int) 1 [.ref (A (0, 0)), .int (l), .int (x)] A (w g r) (fun v A2 h2 => X_X11_proofNumber g l x = 0 ∧ v = some (.int (V_X11_proofNumber g l x)) ∧ A2 = A ∧ h2 = w g r) (fun cls A2 h2 => X_X11_proofNumber g l x ≠ 0 ∧ cls = vEx (X_X11_proofNumber g l x) ∧ A2 = A ∧ h2 = w g r) 1 6 := by
  refine v_of hG (by decide +kernel) (Nat.le_of_ble_eq_true rfl) (lv := [(0, .ref (A (0, 0))), (1, .int (l)), (2, .int (x))]) rfl (fun X C hnx => ?_)
  have C : vC G X cX11_proofNumber 3 RX11 (some .int) "proofNumber" 1 1 6 := C
  refine v_iload_n (pc := 0) C dX11_proofNumber_0 2 rfl rfl ?_
  refine v_if_lt (pc := 1) (tgt := 9) C dX11_proofNumber_1 (by decide) (fun c_1 => ?_) (fun c_1 => ?_)
  · skip
    exact v_throwW (pc := 9) C hnx (cls := "java/lang/IndexOutOfBoundsException") (text := "there is no such place") (by decide +kernel) wd_1003 wd_82 (by decide +kernel) at_IndexOutOfBoundsException (by decide) (by decide) (by decide) dX11_proofNumber_9 dX11_proofNumber_12 dX11_proofNumber_13 dX11_proofNumber_16 dX11_proofNumber_19 ⟨by rw [show (X_X11_proofNumber g l x) = 5 from (by rw [X_X11_proofNumber, if_pos c_1])]; decide, by rw [show (X_X11_proofNumber g l x) = 5 from (by rw [X_X11_proofNumber, if_pos c_1])]; rfl, rfl, rfl⟩
  · skip
    refine v_iload_n (pc := 4) C dX11_proofNumber_4 2 rfl rfl ?_
    refine v_iload_n (pc := 5) C dX11_proofNumber_5 1 rfl rfl ?_
    refine v_icmp_lt (pc := 6) (tgt := 20) C dX11_proofNumber_6 (by decide) (fun c_2 => ?_) (fun c_2 => ?_)
    · skip
      refine v_aload_n (pc := 20) C dX11_proofNumber_20 0 rfl rfl ?_
      refine v_get (pc := 21) C (0, 0) (v := .ref (A (4, 0))) ck_0 rfl 3 (by decide) inX11 wd_223 rfl rfl dX11_proofNumber_21 ?_
      refine v_iload_n (pc := 24) C dX11_proofNumber_24 2 rfl rfl ?_
      refine v_callV (pc := 25) C (4, 0) ck_4 rfl (c_X5_rowAt hG (x) ) 1 wd_1097 wd_63 wd_1094 wd_1095 wd_1096 (by decide +kernel) (by decide) (by decide) rfl ([]) rfl (Nat.le_of_ble_eq_true rfl) (by decide) dX11_proofNumber_25 (fun _ _ _ q => q.elim) (fun v9 A9 h9 hR9 => ?_)
      obtain ⟨rfl, hA9, rfl⟩ := hR9
      obtain rfl := hA9.symm
      refine v_st (k2 := 0) (n2 := 0) (st2 := [.int ((V_X5_rowAt g (x)))]) rfl rfl rfl ?_
      exact v_iret (pc := 28) C (by decide) (by decide) dX11_proofNumber_28 ⟨(by rw [X_X11_proofNumber, if_neg c_1, if_pos c_2]), (congrArg (fun q => some (Value.int q)) (by show _ = _; rw [V_X11_proofNumber, if_neg c_1, if_pos c_2])), rfl, rfl⟩
    · skip
      exact v_throwW (pc := 9) C hnx (cls := "java/lang/IndexOutOfBoundsException") (text := "there is no such place") (by decide +kernel) wd_1003 wd_82 (by decide +kernel) at_IndexOutOfBoundsException (by decide) (by decide) (by decide) dX11_proofNumber_9 dX11_proofNumber_12 dX11_proofNumber_13 dX11_proofNumber_16 dX11_proofNumber_19 ⟨by rw [show (X_X11_proofNumber g l x) = 5 from (by rw [X_X11_proofNumber, if_neg c_1, if_neg c_2])]; decide, by rw [show (X_X11_proofNumber g l x) = 5 from (by rw [X_X11_proofNumber, if_neg c_1, if_neg c_2])]; rfl, rfl, rfl⟩
def X_X11_proofAt (g : vS) (nl : Int32) (x : Int32) (y : Int32) : Nat := (if (X_X11_needLeafAmong g (nl) (x)) = 0 then (if (X_X11_proofNumber (S_X5_findProof g (nl) (x)) ((V_X5_findProof g (nl) (x))) (y)) = 0 then 0 else (X_X11_proofNumber (S_X5_findProof g (nl) (x)) ((V_X5_findProof g (nl) (x))) (y))) else (X_X11_needLeafAmong g (nl) (x)))
def V_X11_proofAt (g : vS) (nl : Int32) (x : Int32) (y : Int32) : Int32 := (if (X_X11_needLeafAmong g (nl) (x)) = 0 then (if (X_X11_proofNumber (S_X5_findProof g (nl) (x)) ((V_X5_findProof g (nl) (x))) (y)) = 0 then (V_X11_proofNumber (S_X5_findProof g (nl) (x)) ((V_X5_findProof g (nl) (x))) (y)) else 0) else 0)
def S_X11_proofAt (g : vS) (nl : Int32) (x : Int32) (y : Int32) : vS := (if (X_X11_needLeafAmong g (nl) (x)) = 0 then (S_X5_findProof g (nl) (x)) else g)
theorem F_X11_proofAt {g : vS} {nl : Int32} {x : Int32} {y : Int32} {c i j : Nat} (h15 : c ≠ 15) (h81 : c ≠ 81) : S_X11_proofAt g nl x y c i j = g c i j := by
  unfold S_X11_proofAt
  (repeat' split) <;> first | rfl | ((simp only [s3_k h15, s3_k h81, F_X5_findProof h15 h81]) <;> first | done | rfl)
set_option maxHeartbeats 4000000 in
set_option maxRecDepth 100000 in
theorem c_X11_proofAt {G : vG} (hG : G.1.stackTraces = false) {A : vN → Nat} {g : vS} {r : vH} (nl : Int32) (x : Int32) (y : Int32)  : vCt G yX11_proofAt cX11_proofAt 4 (some .int) 17 [.ref (A (0, 0)), .int (nl), .int (x), .int (y)] A (w g r) (fun v A2 h2 => X_X11_proofAt g nl x y = 0 ∧ v = some (.int (V_X11_proofAt g nl x y)) ∧ A2 = A ∧ h2 = w (S_X11_proofAt g nl x y) r) (fun cls A2 h2 => X_X11_proofAt g nl x y ≠ 0 ∧ cls = vEx (X_X11_proofAt g nl x y) ∧ A2 = A ∧ h2 = w (S_X11_proofAt g nl x y) r) 3 18 := by
  refine v_of hG (by decide +kernel) (Nat.le_of_ble_eq_true rfl) (lv := [(0, .ref (A (0, 0))), (1, .int (nl)), (2, .int (x)), (3, .int (y))]) rfl (fun X C hnx => ?_)
  have C : vC G X cX11_proofAt 4 RX11 (some .int) "proofAt" 17 3 18 := C
  refine v_aload_n (pc := 0) C dX11_proofAt_0 0 rfl rfl ?_
  refine v_iload_n (pc := 1) C dX11_proofAt_1 1 rfl rfl ?_
  refine v_iload_n (pc := 2) C dX11_proofAt_2 2 rfl rfl ?_
  refine v_callV (pc := 3) C (0, 0) ck_0 rfl (c_X11_needLeafAmong hG (nl) (x) ) 2 wd_1072 wd_62 wd_1069 wd_1071 wd_22 (by decide +kernel) (by decide) (by decide) rfl ([]) rfl (Nat.le_of_ble_eq_true rfl) (by decide) dX11_proofAt_3 (fun cls9 A9 h9 hE9 => by obtain ⟨q9, rfl, rfl, rfl⟩ := hE9; exact v_out C hnx ⟨(by rw [show (X_X11_proofAt g nl x y) = (X_X11_needLeafAmong g (nl) (x)) from (by rw [X_X11_proofAt, if_neg q9])]; exact q9), (by rw [show (X_X11_proofAt g nl x y) = (X_X11_needLeafAmong g (nl) (x)) from (by rw [X_X11_proofAt, if_neg q9])]), rfl, (congrArg (fun q => w q r) (by show _ = _; rw [S_X11_proofAt, if_neg q9]))⟩ (by decide) (by decide)) (fun v9 A9 h9 hR9 => ?_)
  obtain ⟨x_1, rfl, hA9, rfl⟩ := hR9
  obtain rfl := hA9.symm
  refine v_st (k2 := 2) (n2 := 12) (st2 := []) rfl rfl rfl ?_
  refine v_aload_n (pc := 6) C dX11_proofAt_6 0 rfl rfl ?_
  refine v_aload_n (pc := 7) C dX11_proofAt_7 0 rfl rfl ?_
  refine v_get (pc := 8) C (0, 0) (v := .ref (A (4, 0))) ck_0 rfl 3 (by decide) inX11 wd_223 rfl rfl dX11_proofAt_8 ?_
  refine v_iload_n (pc := 11) C dX11_proofAt_11 1 rfl rfl ?_
  refine v_iload_n (pc := 12) C dX11_proofAt_12 2 rfl rfl ?_
  refine v_callV (pc := 13) C (4, 0) ck_4 rfl (c_X5_findProof hG (nl) (x) ) 2 wd_1077 wd_63 wd_1074 wd_1075 wd_1076 (by decide +kernel) (by decide) (by decide) rfl ([.ref (A (0, 0))]) rfl (Nat.le_of_ble_eq_true rfl) (by decide) dX11_proofAt_13 (fun _ _ _ q => q.elim) (fun v9 A9 h9 hR9 => ?_)
  obtain ⟨rfl, hA9, rfl⟩ := hR9
  obtain rfl := hA9.symm
  refine v_st (k2 := 2) (n2 := 12) (st2 := [.int ((V_X5_findProof g (nl) (x))), .ref (A (0, 0))]) rfl rfl rfl ?_
  refine v_iload_n (pc := 16) C dX11_proofAt_16 3 rfl rfl ?_
  refine v_callV (pc := 17) C (0, 0) ck_0 rfl (c_X11_proofNumber hG ((V_X5_findProof g (nl) (x))) (y) ) 2 wd_1092 wd_62 wd_1089 wd_1091 wd_24 (by decide +kernel) (by decide) (by decide) rfl ([]) rfl (Nat.le_of_ble_eq_true rfl) (by decide) dX11_proofAt_17 (fun cls9 A9 h9 hE9 => by obtain ⟨q9, rfl, rfl, rfl⟩ := hE9; exact v_out C hnx ⟨(by rw [show (X_X11_proofAt g nl x y) = (X_X11_proofNumber (S_X5_findProof g (nl) (x)) ((V_X5_findProof g (nl) (x))) (y)) from (by rw [X_X11_proofAt, if_pos x_1, if_neg q9])]; exact q9), (by rw [show (X_X11_proofAt g nl x y) = (X_X11_proofNumber (S_X5_findProof g (nl) (x)) ((V_X5_findProof g (nl) (x))) (y)) from (by rw [X_X11_proofAt, if_pos x_1, if_neg q9])]), rfl, (congrArg (fun q => w q r) (by show _ = _; rw [S_X11_proofAt, if_pos x_1]))⟩ (by decide) (by decide)) (fun v9 A9 h9 hR9 => ?_)
  obtain ⟨x_2, rfl, hA9, rfl⟩ := hR9
  obtain rfl := hA9.symm
  refine v_st (k2 := 3) (n2 := 18) (st2 := [.int ((V_X11_proofNumber (S_X5_findProof g (nl) (x)) ((V_X5_findProof g (nl) (x))) (y)))]) rfl rfl rfl ?_
  exact v_iret (pc := 20) C (by decide) (by decide) dX11_proofAt_20 ⟨(by rw [X_X11_proofAt, if_pos x_1, if_pos x_2]), (congrArg (fun q => some (Value.int q)) (by show _ = _; rw [V_X11_proofAt, if_pos x_1, if_pos x_2])), rfl, (congrArg (fun q => w q r) (by show _ = _; rw [S_X11_proofAt, if_pos x_1]))⟩
def X_X11_prefixAt (g : vS) (m : Int32) (nl : Int32) (y : Int32) : Nat := (if (X_X11_needPrefix g (m) (nl)) = 0 then (if (X_X11_proofNumber (S_X5_findPrefixProof g (m) (nl)) ((V_X5_findPrefixProof g (m) (nl))) (y)) = 0 then 0 else (X_X11_proofNumber (S_X5_findPrefixProof g (m) (nl)) ((V_X5_findPrefixProof g (m) (nl))) (y))) else (X_X11_needPrefix g (m) (nl)))
def V_X11_prefixAt (g : vS) (m : Int32) (nl : Int32) (y : Int32) : Int32 := (if (X_X11_needPrefix g (m) (nl)) = 0 then (if (X_X11_proofNumber (S_X5_findPrefixProof g (m) (nl)) ((V_X5_findPrefixProof g (m) (nl))) (y)) = 0 then (V_X11_proofNumber (S_X5_findPrefixProof g (m) (nl)) ((V_X5_findPrefixProof g (m) (nl))) (y)) else 0) else 0)
def S_X11_prefixAt (g : vS) (m : Int32) (nl : Int32) (y : Int32) : vS := (if (X_X11_needPrefix g (m) (nl)) = 0 then (S_X5_findPrefixProof g (m) (nl)) else g)
theorem F_X11_prefixAt {g : vS} {m : Int32} {nl : Int32} {y : Int32} {c i j : Nat} (h15 : c ≠ 15) (h81 : c ≠ 81) : S_X11_prefixAt g m nl y c i j = g c i j := by
  unfold S_X11_prefixAt
  (repeat' split) <;> first | rfl | ((simp only [s3_k h15, s3_k h81, F_X5_findPrefixProof h15 h81]) <;> first | done | rfl)
set_option maxHeartbeats 4000000 in
set_option maxRecDepth 100000 in
theorem c_X11_prefixAt {G : vG} (hG : G.1.stackTraces = false) {A : vN → Nat} {g : vS} {r : vH} (m : Int32) (nl : Int32) (y : Int32)  : vCt G yX11_prefixAt cX11_prefixAt 4 (some .int) 17 [.ref (A (0, 0)), .int (m), .int (nl), .int (y)] A (w g r) (fun v A2 h2 => X_X11_prefixAt g m nl y = 0 ∧ v = some (.int (V_X11_prefixAt g m nl y)) ∧ A2 = A ∧ h2 = w (S_X11_prefixAt g m nl y) r) (fun cls A2 h2 => X_X11_prefixAt g m nl y ≠ 0 ∧ cls = vEx (X_X11_prefixAt g m nl y) ∧ A2 = A ∧ h2 = w (S_X11_prefixAt g m nl y) r) 3 18 := by
  refine v_of hG (by decide +kernel) (Nat.le_of_ble_eq_true rfl) (lv := [(0, .ref (A (0, 0))), (1, .int (m)), (2, .int (nl)), (3, .int (y))]) rfl (fun X C hnx => ?_)
  have C : vC G X cX11_prefixAt 4 RX11 (some .int) "prefixAt" 17 3 18 := C
  refine v_aload_n (pc := 0) C dX11_prefixAt_0 0 rfl rfl ?_
  refine v_iload_n (pc := 1) C dX11_prefixAt_1 1 rfl rfl ?_
  refine v_iload_n (pc := 2) C dX11_prefixAt_2 2 rfl rfl ?_
  refine v_callV (pc := 3) C (0, 0) ck_0 rfl (c_X11_needPrefix hG (m) (nl) ) 2 wd_1108 wd_62 wd_1105 wd_1107 wd_25 (by decide +kernel) (by decide) (by decide) rfl ([]) rfl (Nat.le_of_ble_eq_true rfl) (by decide) dX11_prefixAt_3 (fun cls9 A9 h9 hE9 => by obtain ⟨q9, rfl, rfl, rfl⟩ := hE9; exact v_out C hnx ⟨(by rw [show (X_X11_prefixAt g m nl y) = (X_X11_needPrefix g (m) (nl)) from (by rw [X_X11_prefixAt, if_neg q9])]; exact q9), (by rw [show (X_X11_prefixAt g m nl y) = (X_X11_needPrefix g (m) (nl)) from (by rw [X_X11_prefixAt, if_neg q9])]), rfl, (congrArg (fun q => w q r) (by show _ = _; rw [S_X11_prefixAt, if_neg q9]))⟩ (by decide) (by decide)) (fun v9 A9 h9 hR9 => ?_)
  obtain ⟨x_1, rfl, hA9, rfl⟩ := hR9
  obtain rfl := hA9.symm
  refine v_st (k2 := 2) (n2 := 12) (st2 := []) rfl rfl rfl ?_
  refine v_aload_n (pc := 6) C dX11_prefixAt_6 0 rfl rfl ?_
  refine v_aload_n (pc := 7) C dX11_prefixAt_7 0 rfl rfl ?_
  refine v_get (pc := 8) C (0, 0) (v := .ref (A (4, 0))) ck_0 rfl 3 (by decide) inX11 wd_223 rfl rfl dX11_prefixAt_8 ?_
  refine v_iload_n (pc := 11) C dX11_prefixAt_11 1 rfl rfl ?_
  refine v_iload_n (pc := 12) C dX11_prefixAt_12 2 rfl rfl ?_
  refine v_callV (pc := 13) C (4, 0) ck_4 rfl (c_X5_findPrefixProof hG (m) (nl) ) 2 wd_1113 wd_63 wd_1110 wd_1111 wd_1112 (by decide +kernel) (by decide) (by decide) rfl ([.ref (A (0, 0))]) rfl (Nat.le_of_ble_eq_true rfl) (by decide) dX11_prefixAt_13 (fun _ _ _ q => q.elim) (fun v9 A9 h9 hR9 => ?_)
  obtain ⟨rfl, hA9, rfl⟩ := hR9
  obtain rfl := hA9.symm
  refine v_st (k2 := 2) (n2 := 12) (st2 := [.int ((V_X5_findPrefixProof g (m) (nl))), .ref (A (0, 0))]) rfl rfl rfl ?_
  refine v_iload_n (pc := 16) C dX11_prefixAt_16 3 rfl rfl ?_
  refine v_callV (pc := 17) C (0, 0) ck_0 rfl (c_X11_proofNumber hG ((V_X5_findPrefixProof g (m) (nl))) (y) ) 2 wd_1092 wd_62 wd_1089 wd_1091 wd_24 (by decide +kernel) (by decide) (by decide) rfl ([]) rfl (Nat.le_of_ble_eq_true rfl) (by decide) dX11_prefixAt_17 (fun cls9 A9 h9 hE9 => by obtain ⟨q9, rfl, rfl, rfl⟩ := hE9; exact v_out C hnx ⟨(by rw [show (X_X11_prefixAt g m nl y) = (X_X11_proofNumber (S_X5_findPrefixProof g (m) (nl)) ((V_X5_findPrefixProof g (m) (nl))) (y)) from (by rw [X_X11_prefixAt, if_pos x_1, if_neg q9])]; exact q9), (by rw [show (X_X11_prefixAt g m nl y) = (X_X11_proofNumber (S_X5_findPrefixProof g (m) (nl)) ((V_X5_findPrefixProof g (m) (nl))) (y)) from (by rw [X_X11_prefixAt, if_pos x_1, if_neg q9])]), rfl, (congrArg (fun q => w q r) (by show _ = _; rw [S_X11_prefixAt, if_pos x_1]))⟩ (by decide) (by decide)) (fun v9 A9 h9 hR9 => ?_)
  obtain ⟨x_2, rfl, hA9, rfl⟩ := hR9
  obtain rfl := hA9.symm
  refine v_st (k2 := 3) (n2 := 18) (st2 := [.int ((V_X11_proofNumber (S_X5_findPrefixProof g (m) (nl)) ((V_X5_findPrefixProof g (m) (nl))) (y)))]) rfl rfl rfl ?_
  exact v_iret (pc := 20) C (by decide) (by decide) dX11_prefixAt_20 ⟨(by rw [X_X11_prefixAt, if_pos x_1, if_pos x_2]), (congrArg (fun q => some (Value.int q)) (by show _ = _; rw [V_X11_prefixAt, if_pos x_1, if_pos x_2])), rfl, (congrArg (fun q => w q r) (by show _ = _; rw [S_X11_prefixAt, if_pos x_1]))⟩
