def V_X6_opened (g : vS) (f : Nat) (p : Nat) : Int32 := pUnseal ((g 58 f p)) ((g 64 f p))
set_option maxHeartbeats 4000000 in
set_option maxRecDepth 100000 in
theorem c_X6_opened {G : vG} (hG : G.1.stackTraces = false) {A : vN → Nat} {g : vS} {r : vH} (f : Nat) (p : Nat) (hp : p < 8) (he : g 106 f p ≠ 0) : vCt G yX6_opened cX6_opened 1 (some .int) 1 [.ref (A (32, 8 * f + p))] A (w g r) (fun v A2 h2 => v = some (.int (V_X6_opened g f p)) ∧ A2 = A ∧ h2 = w g r) (vNoX) 0 0 := by
  refine v_of hG (by decide +kernel) (Nat.le_of_ble_eq_true rfl) (lv := [(0, .ref (A (32, 8 * f + p)))]) rfl (fun X C hnx => ?_)
  have C : vC G X cX6_opened 1 RX6 (some .int) "opened" 1 0 0 := C
  refine v_aload_n (pc := 0) C dX6_opened_0 0 rfl rfl ?_
  refine v_get (pc := 1) C (32, 8 * f + p) (v := .int ((g 58 f p))) (ck_32 (g := g) hp he) rfl 2 (by decide) inX6 wd_782 rfl rfl dX6_opened_1 ?_
  refine v_aload_n (pc := 4) C dX6_opened_4 0 rfl rfl ?_
  refine v_get (pc := 5) C (32, 8 * f + p) (v := .int ((g 64 f p))) (ck_32 (g := g) hp he) rfl 3 (by decide) inX6 wd_785 rfl rfl dX6_opened_5 ?_
  refine v_callS (pc := 8) C (c_X0_unseal hG ((g 58 f p)) ((g 64 f p))) 2 wd_328 wd_78 wd_326 wd_327 (by decide +kernel) (by decide) (by decide) rfl ([]) rfl (Nat.le_of_ble_eq_true rfl) (by decide) dX6_opened_8 (fun _ _ _ q => q.elim) (fun v9 A9 h9 hR9 => ?_)
  obtain ⟨rfl, hA9, rfl⟩ := hR9
  obtain rfl := hA9.symm
  refine v_st (k2 := 0) (n2 := 0) (st2 := [.int (pUnseal ((g 58 f p)) ((g 64 f p)))]) rfl rfl rfl ?_
  exact v_iret (pc := 11) C (by decide) (by decide) dX6_opened_11 ⟨(congrArg (fun q => some (Value.int q)) (by show _ = _; rw [V_X6_opened])), rfl, rfl⟩
def Q_X4_partAt (g : vS) (f : Nat) (x : Int32) : Option vN := (if x < 0 then none else (if 8 ≤ x then none else (if (g 106 f (x).toNatClampNeg) = 0 then none else (some (32, 8 * f + (x).toNatClampNeg)))))
set_option maxHeartbeats 4000000 in
set_option maxRecDepth 100000 in
theorem c_X4_partAt {G : vG} (hG : G.1.stackTraces = false) {A : vN → Nat} {g : vS} {r : vH} (f : Nat) (x : Int32) (hf : g 105 f 0 ≠ 0) : vCt G yX4_partAt cX4_partAt 2 (some (.object "Vaultgarden$Part")) 0 [.ref (A (30, f)), .int (x)] A (w g r) (fun v A2 h2 => v = some (vRq A (Q_X4_partAt g f x)) ∧ A2 = A ∧ h2 = w g r) (vNoX) 0 0 := by
  refine v_of hG (by decide +kernel) (Nat.le_of_ble_eq_true rfl) (lv := [(0, .ref (A (30, f))), (1, .int (x))]) rfl (fun X C hnx => ?_)
  have C : vC G X cX4_partAt 2 RX4 (some (.object "Vaultgarden$Part")) "partAt" 0 0 0 := C
  refine v_iload_n (pc := 0) C dX4_partAt_0 1 rfl rfl ?_
  refine v_if_lt (pc := 1) (tgt := 22) C dX4_partAt_1 (by decide) (fun c_1 => ?_) (fun c_1 => ?_)
  · skip
    refine v_null (pc := 22) C dX4_partAt_22 ?_
    exact v_aret (pc := 23) C (Or.inl ⟨_, rfl⟩) (Or.inl rfl) (by decide) (by decide) dX4_partAt_23 ⟨(show some (vRq A none) = some (vRq A (Q_X4_partAt g f x)) from congrArg (fun q => some (vRq A q)) (show (none : Option vN) = (Q_X4_partAt g f x) from (by rw [Q_X4_partAt, if_pos c_1]))), rfl, rfl⟩
  · skip
    refine v_iload_n (pc := 4) C dX4_partAt_4 1 rfl rfl ?_
    refine v_aload_n (pc := 5) C dX4_partAt_5 0 rfl rfl ?_
    refine v_get (pc := 6) C (30, f) (v := .ref (A (31, f))) (ck_30 (g := g) hf) rfl 8 (by decide) inX4 wd_718 rfl rfl dX4_partAt_6 ?_
    refine v_alen (pc := 9) C (31, f) (v := 8) (ck_31 (g := g) hf) rfl (by decide) dX4_partAt_9 ?_
    refine v_icmp_ge (pc := 10) (tgt := 22) C dX4_partAt_10 (by decide) (fun c_2 => ?_) (fun c_2 => ?_)
    · skip
      refine v_null (pc := 22) C dX4_partAt_22 ?_
      exact v_aret (pc := 23) C (Or.inl ⟨_, rfl⟩) (Or.inl rfl) (by decide) (by decide) dX4_partAt_23 ⟨(show some (vRq A none) = some (vRq A (Q_X4_partAt g f x)) from congrArg (fun q => some (vRq A q)) (show (none : Option vN) = (Q_X4_partAt g f x) from (by rw [Q_X4_partAt, if_neg c_1, if_pos c_2]))), rfl, rfl⟩
    · skip
      refine v_aload_n (pc := 13) C dX4_partAt_13 0 rfl rfl ?_
      refine v_get (pc := 14) C (30, f) (v := .ref (A (31, f))) (ck_30 (g := g) hf) rfl 8 (by decide) inX4 wd_718 rfl rfl dX4_partAt_14 ?_
      refine v_iload_n (pc := 17) C dX4_partAt_17 1 rfl rfl ?_
      rcases Classical.em ((g 106 f (x).toNatClampNeg) = 0) with c_3 | c_3
      · skip
        refine v_aaldN (pc := 18) C (31, f) (ck_31 (g := g) hf) rfl rfl (by (try simp only [Int32.le_iff_toInt_le, Int32.lt_iff_toInt_lt, ← Int32.toInt_inj, vp_in_iff, Int32.reduceToInt] at c_1 c_2 ⊢) <;> omega) ((if_pos c_3 : (fun k => if g 106 f k = 0 then none else some (32, 8 * f + k)) (x).toNatClampNeg = none)) dX4_partAt_18 ?_
        refine v_goto (tgt := 23) (pc := 19) C dX4_partAt_19 (by decide) ?_
        exact v_aret (pc := 23) C (Or.inl ⟨_, rfl⟩) (Or.inl rfl) (by decide) (by decide) dX4_partAt_23 ⟨(show some (vRq A none) = some (vRq A (Q_X4_partAt g f x)) from congrArg (fun q => some (vRq A q)) (show (none : Option vN) = (Q_X4_partAt g f x) from (by rw [Q_X4_partAt, if_neg c_1, if_neg c_2, if_pos c_3]))), rfl, rfl⟩
      · skip
        refine v_aald (pc := 18) C (31, f) (ck_31 (g := g) hf) rfl rfl (by (try simp only [Int32.le_iff_toInt_le, Int32.lt_iff_toInt_lt, ← Int32.toInt_inj, vp_in_iff, Int32.reduceToInt] at c_1 c_2 ⊢) <;> omega) (32, 8 * f + (x).toNatClampNeg) ((if_neg c_3 : (fun k => if g 106 f k = 0 then none else some (32, 8 * f + k)) (x).toNatClampNeg = some (32, 8 * f + (x).toNatClampNeg))) dX4_partAt_18 ?_
        refine v_goto (tgt := 23) (pc := 19) C dX4_partAt_19 (by decide) ?_
        exact v_aret (pc := 23) C (Or.inl ⟨_, rfl⟩) (Or.inr ⟨_, rfl⟩) (by decide) (by decide) dX4_partAt_23 ⟨(show some (vRq A (some (32, 8 * f + (x).toNatClampNeg))) = some (vRq A (Q_X4_partAt g f x)) from congrArg (fun q => some (vRq A q)) (show ((some (32, 8 * f + (x).toNatClampNeg)) : Option vN) = (Q_X4_partAt g f x) from (by rw [Q_X4_partAt, if_neg c_1, if_neg c_2, if_neg c_3]))), rfl, rfl⟩
def V_X4_writesOf (g : vS) (f : Nat) (x : Int32) : Int32 := (if x < 0 then 0 else (if 8 ≤ x then 0 else (if (g 106 f (x).toNatClampNeg) = 0 then 0 else (g 56 f (x).toNatClampNeg))))
set_option maxHeartbeats 4000000 in
set_option maxRecDepth 100000 in
theorem c_X4_writesOf {G : vG} (hG : G.1.stackTraces = false) {A : vN → Nat} {g : vS} {r : vH} (f : Nat) (x : Int32) (hf : g 105 f 0 ≠ 0) : vCt G yX4_writesOf cX4_writesOf 3 (some .int) 1 [.ref (A (30, f)), .int (x)] A (w g r) (fun v A2 h2 => v = some (.int (V_X4_writesOf g f x)) ∧ A2 = A ∧ h2 = w g r) (vNoX) 0 0 := by
  refine v_of hG (by decide +kernel) (Nat.le_of_ble_eq_true rfl) (lv := [(0, .ref (A (30, f))), (1, .int (x))]) rfl (fun X C hnx => ?_)
  have C : vC G X cX4_writesOf 3 RX4 (some .int) "writesOf" 1 0 0 := C
  refine v_aload_n (pc := 0) C dX4_writesOf_0 0 rfl rfl ?_
  refine v_iload_n (pc := 1) C dX4_writesOf_1 1 rfl rfl ?_
  refine v_callV (pc := 2) C (30, f) (ck_30 (g := g) hf) rfl (c_X4_partAt hG (f) (x) hf) 1 wd_321 wd_80 wd_864 wd_319 wd_320 (by decide +kernel) (by decide) (by decide) rfl ([]) rfl (Nat.le_of_ble_eq_true rfl) (by decide) dX4_writesOf_2 (fun _ _ _ q => q.elim) (fun v9 A9 h9 hR9 => ?_)
  obtain ⟨rfl, hA9, rfl⟩ := hR9
  obtain rfl := hA9.symm
  rcases Classical.em (x < 0) with c_1 | c_1
  · skip
    refine v_st (k2 := 0) (n2 := 0) (st2 := [.null]) rfl rfl (by show vRq A (Q_X4_partAt g (f) (x)) :: _ = _; rw [Q_X4_partAt]; rw [if_pos c_1]; rfl) ?_
    refine v_astore_nN (lv2 := [(2, .null), (0, .ref (A (30, f))), (1, .int (x))]) (pc := 5) C dX4_writesOf_5 rfl (by decide) rfl ?_
    refine v_aload_nN (pc := 6) C dX4_writesOf_6 0 rfl rfl ?_
    refine v_ifnonnullN (pc := 7) C dX4_writesOf_7 ?_
    refine v_iconst (v := 0) (pc := 10) C dX4_writesOf_10 rfl ?_
    refine v_goto (tgt := 18) (pc := 11) C dX4_writesOf_11 (by decide) ?_
    exact v_iret (pc := 18) C (by decide) (by decide) dX4_writesOf_18 ⟨(congrArg (fun q => some (Value.int q)) (by show _ = _; rw [V_X4_writesOf, if_pos c_1])), rfl, rfl⟩
  · skip
    rcases Classical.em (8 ≤ x) with c_2 | c_2
    · skip
      refine v_st (k2 := 0) (n2 := 0) (st2 := [.null]) rfl rfl (by show vRq A (Q_X4_partAt g (f) (x)) :: _ = _; rw [Q_X4_partAt]; rw [if_neg c_1, if_pos c_2]; rfl) ?_
      refine v_astore_nN (lv2 := [(2, .null), (0, .ref (A (30, f))), (1, .int (x))]) (pc := 5) C dX4_writesOf_5 rfl (by decide) rfl ?_
      refine v_aload_nN (pc := 6) C dX4_writesOf_6 0 rfl rfl ?_
      refine v_ifnonnullN (pc := 7) C dX4_writesOf_7 ?_
      refine v_iconst (v := 0) (pc := 10) C dX4_writesOf_10 rfl ?_
      refine v_goto (tgt := 18) (pc := 11) C dX4_writesOf_11 (by decide) ?_
      exact v_iret (pc := 18) C (by decide) (by decide) dX4_writesOf_18 ⟨(congrArg (fun q => some (Value.int q)) (by show _ = _; rw [V_X4_writesOf, if_neg c_1, if_pos c_2])), rfl, rfl⟩
    · skip
      rcases Classical.em ((g 106 f (x).toNatClampNeg) = 0) with c_3 | c_3
      · skip
        refine v_st (k2 := 0) (n2 := 0) (st2 := [.null]) rfl rfl (by show vRq A (Q_X4_partAt g (f) (x)) :: _ = _; rw [Q_X4_partAt]; rw [if_neg c_1, if_neg c_2, if_pos c_3]; rfl) ?_
        refine v_astore_nN (lv2 := [(2, .null), (0, .ref (A (30, f))), (1, .int (x))]) (pc := 5) C dX4_writesOf_5 rfl (by decide) rfl ?_
        refine v_aload_nN (pc := 6) C dX4_writesOf_6 0 rfl rfl ?_
        refine v_ifnonnullN (pc := 7) C dX4_writesOf_7 ?_
        refine v_iconst (v := 0) (pc := 10) C dX4_writesOf_10 rfl ?_
        refine v_goto (tgt := 18) (pc := 11) C dX4_writesOf_11 (by decide) ?_
        exact v_iret (pc := 18) C (by decide) (by decide) dX4_writesOf_18 ⟨(congrArg (fun q => some (Value.int q)) (by show _ = _; rw [V_X4_writesOf, if_neg c_1, if_neg c_2, if_pos c_3])), rfl, rfl⟩
      · skip
        refine v_st (k2 := 0) (n2 := 0) (st2 := [.ref (A (32, 8 * f + (x).toNatClampNeg))]) rfl rfl (by show vRq A (Q_X4_partAt g (f) (x)) :: _ = _; rw [Q_X4_partAt]; rw [if_neg c_1, if_neg c_2, if_neg c_3]; rfl) ?_
        refine v_astore_n (lv2 := [(2, .ref (A (32, 8 * f + (x).toNatClampNeg))), (0, .ref (A (30, f))), (1, .int (x))]) (pc := 5) C dX4_writesOf_5 rfl (by decide) rfl ?_
        refine v_aload_n (pc := 6) C dX4_writesOf_6 0 rfl rfl ?_
        refine v_ifnonnull (tgt := 14) (pc := 7) C dX4_writesOf_7 (by decide) ?_
        refine v_aload_n (pc := 14) C dX4_writesOf_14 0 rfl rfl ?_
        refine v_get (pc := 15) C (32, 8 * f + (x).toNatClampNeg) (v := .int ((g 56 f (x).toNatClampNeg))) (ck_32 (g := g) (tn_lt (by simp only [Int32.le_iff_toInt_le, Int32.lt_iff_toInt_lt, ← Int32.toInt_inj, Int32.reduceToInt] at c_1 c_2 c_3 ⊢; omega)) c_3) rfl 6 (by decide) inX6 wd_791 rfl rfl dX4_writesOf_15 ?_
        exact v_iret (pc := 18) C (by decide) (by decide) dX4_writesOf_18 ⟨(congrArg (fun q => some (Value.int q)) (by show _ = _; rw [V_X4_writesOf, if_neg c_1, if_neg c_2, if_neg c_3])), rfl, rfl⟩
def VL_X4_partCount_4 (g : vS) (f : Nat) : Nat → Nat → Int32 → Int32
  | 0, _, _ => 0
  | n + 1, i_4, x_4_1 => (if 8 ≤ nI i_4 then x_4_1 else (if (g 106 f i_4) = 0 then (VL_X4_partCount_4 g f n (i_4 + 1) (x_4_1)) else (VL_X4_partCount_4 g f n (i_4 + 1) ((x_4_1 + 1)))))
def V_X4_partCount (g : vS) (f : Nat) : Int32 := (VL_X4_partCount_4 g f (8 + 1) 0 (0))
set_option maxHeartbeats 4000000 in
set_option maxRecDepth 100000 in
theorem c_X4_partCount {G : vG} (hG : G.1.stackTraces = false) {A : vN → Nat} {g : vS} {r : vH} (f : Nat) (hf : g 105 f 0 ≠ 0) : vCt G yX4_partCount cX4_partCount 3 (some .int) 0 [.ref (A (30, f))] A (w g r) (fun v A2 h2 => v = some (.int (V_X4_partCount g f)) ∧ A2 = A ∧ h2 = w g r) (vNoX) 0 0 := by
  refine v_of hG (by decide +kernel) (Nat.le_of_ble_eq_true rfl) (lv := [(0, .ref (A (30, f)))]) rfl (fun X C hnx => ?_)
  have C : vC G X cX4_partCount 3 RX4 (some .int) "partCount" 0 0 0 := C
  refine v_iconst (v := 0) (pc := 0) C dX4_partCount_0 rfl ?_
  refine v_istore_n (lv2 := [(1, .int (0)), (0, .ref (A (30, f)))]) (pc := 1) C dX4_partCount_1 rfl (by decide) rfl ?_
  refine v_iconst (v := 0) (pc := 2) C dX4_partCount_2 rfl ?_
  refine v_istore_n (lv2 := [(2, .int (0)), (1, .int (0)), (0, .ref (A (30, f)))]) (pc := 3) C dX4_partCount_3 rfl (by decide) rfl ?_
  have L_4 : ∀ (n : Nat) (i_4 : Nat) (x_4_1 : Int32), i_4 ≤ 8 → 8 + 1 ≤ i_4 + n → (V_X4_partCount g f) = VL_X4_partCount_4 g f n i_4 x_4_1 → V G 3 X A (w g r) 0 0 (vM G X (fun v A2 h2 => v = some (.int (V_X4_partCount g f)) ∧ A2 = A ∧ h2 = w g r) (vNoX) 0 0) 4 [(2, .int (nI i_4)), (1, .int (x_4_1)), (0, .ref (A (30, f)))] [] := by
    intro n
    induction n with
    | zero => intro i_4 x_4_1 hi_4 hc_4 eV_4; exact absurd hc_4 (by omega)
    | succ n ih =>
      intro i_4 x_4_1 hi_4 hc_4 eV_4
      have hq_4 : (nI i_4).toInt = (i_4 : Int) := nI_toInt (by omega)
      have hr_4 : (nI (i_4 + 1)).toInt = ((i_4 + 1 : Nat) : Int) := nI_toInt (by omega)
      refine v_iload_n (pc := 4) C dX4_partCount_4 0 rfl rfl ?_
      refine v_aload_n (pc := 5) C dX4_partCount_5 2 rfl rfl ?_
      refine v_get (pc := 6) C (30, f) (v := .ref (A (31, f))) (ck_30 (g := g) hf) rfl 8 (by decide) inX4 wd_718 rfl rfl dX4_partCount_6 ?_
      refine v_alen (pc := 9) C (31, f) (v := 8) (ck_31 (g := g) hf) rfl (by decide) dX4_partCount_9 ?_
      refine v_icmp_ge (pc := 10) (tgt := 31) C dX4_partCount_10 (by decide) (fun c_1 => ?_) (fun c_1 => ?_)
      · skip
        refine v_iload_n (pc := 31) C dX4_partCount_31 1 rfl rfl ?_
        exact v_iret (pc := 32) C (by decide) (by decide) dX4_partCount_32 ⟨(congrArg (fun q => some (Value.int q)) (by show _ = _; rw [eV_4, VL_X4_partCount_4, if_pos c_1])), rfl, rfl⟩
      · skip
        refine v_aload_n (pc := 13) C dX4_partCount_13 2 rfl rfl ?_
        refine v_get (pc := 14) C (30, f) (v := .ref (A (31, f))) (ck_30 (g := g) hf) rfl 8 (by decide) inX4 wd_718 rfl rfl dX4_partCount_14 ?_
        refine v_iload_n (pc := 17) C dX4_partCount_17 0 rfl rfl ?_
        rcases Classical.em ((g 106 f i_4) = 0) with c_2 | c_2
        · skip
          refine v_aaldN (pc := 18) C (31, f) (ck_31 (g := g) hf) rfl rfl (by (try simp only [Int32.le_iff_toInt_le, Int32.lt_iff_toInt_lt, ← Int32.toInt_inj, vp_in_iff, Int32.reduceToInt] at c_1 hq_4 hr_4 ⊢) <;> omega) ((congrArg (fun k => if g 106 f k = 0 then none else some (32, 8 * f + k)) (show (nI i_4 : Int32).toNatClampNeg = i_4 from (nI_clamp (by omega)))).trans ((if_pos c_2 : (fun k => if g 106 f k = 0 then none else some (32, 8 * f + k)) i_4 = none))) dX4_partCount_18 ?_
          refine v_ifnullN (tgt := 25) (pc := 19) C dX4_partCount_19 (by decide) ?_
          refine v_iinc (v := nI (i_4 + 1)) (lv2 := [(2, .int (nI (i_4 + 1))), (1, .int (x_4_1)), (0, .ref (A (30, f)))]) (pc := 25) C dX4_partCount_25 0 rfl (nI_1 _) (by decide) rfl ?_
          refine v_goto (tgt := 4) (pc := 28) C dX4_partCount_28 (by decide) ?_
          refine v_lv (lv2 := [(2, .int (nI (i_4 + 1))), (1, .int (x_4_1)), (0, .ref (A (30, f)))]) [0, 1, 2] rfl ?_
          exact ih (i_4 + 1) (x_4_1) (by (try simp only [Int32.le_iff_toInt_le, Int32.lt_iff_toInt_lt, ← Int32.toInt_inj, vp_in_iff, Int32.reduceToInt] at c_1 c_2 hq_4 hr_4 ⊢) <;> omega) (by omega)  (by rw [eV_4, VL_X4_partCount_4, if_neg c_1, if_pos c_2])
        · skip
          refine v_aald (pc := 18) C (31, f) (ck_31 (g := g) hf) rfl rfl (by (try simp only [Int32.le_iff_toInt_le, Int32.lt_iff_toInt_lt, ← Int32.toInt_inj, vp_in_iff, Int32.reduceToInt] at c_1 hq_4 hr_4 ⊢) <;> omega) (32, 8 * f + i_4) ((congrArg (fun k => if g 106 f k = 0 then none else some (32, 8 * f + k)) (show (nI i_4 : Int32).toNatClampNeg = i_4 from (nI_clamp (by omega)))).trans ((if_neg c_2 : (fun k => if g 106 f k = 0 then none else some (32, 8 * f + k)) i_4 = some (32, 8 * f + i_4)))) dX4_partCount_18 ?_
          refine v_ifnull (pc := 19) C dX4_partCount_19 ?_
          refine v_iinc (v := (x_4_1 + 1)) (lv2 := [(1, .int ((x_4_1 + 1))), (2, .int (nI i_4)), (0, .ref (A (30, f)))]) (pc := 22) C dX4_partCount_22 1 rfl rfl (by decide) rfl ?_
          refine v_iinc (v := nI (i_4 + 1)) (lv2 := [(2, .int (nI (i_4 + 1))), (1, .int ((x_4_1 + 1))), (0, .ref (A (30, f)))]) (pc := 25) C dX4_partCount_25 1 rfl (nI_1 _) (by decide) rfl ?_
          refine v_goto (tgt := 4) (pc := 28) C dX4_partCount_28 (by decide) ?_
          refine v_lv (lv2 := [(2, .int (nI (i_4 + 1))), (1, .int ((x_4_1 + 1))), (0, .ref (A (30, f)))]) [0, 1, 2] rfl ?_
          exact ih (i_4 + 1) ((x_4_1 + 1)) (by (try simp only [Int32.le_iff_toInt_le, Int32.lt_iff_toInt_lt, ← Int32.toInt_inj, vp_in_iff, Int32.reduceToInt] at c_1 c_2 hq_4 hr_4 ⊢) <;> omega) (by omega)  (by rw [eV_4, VL_X4_partCount_4, if_neg c_1, if_neg c_2])
  exact L_4 (8 + 1) 0 (0) (by omega) (by omega)  (by rw [V_X4_partCount])
def VL_X4_markOfParts_7 (g : vS) (f : Nat) : Nat → Nat → Int32 → Int32
  | 0, _, _ => 0
  | n + 1, i_7, x_7_1 => (if 8 ≤ nI i_7 then x_7_1 else (if (g 106 f i_7) = 0 then (VL_X4_markOfParts_7 g f n (i_7 + 1) (x_7_1)) else (VL_X4_markOfParts_7 g f n (i_7 + 1) (pMix (x_7_1) (((g 58 f i_7) ^^^ nI i_7))))))
def V_X4_markOfParts (g : vS) (f : Nat) : Int32 := (VL_X4_markOfParts_7 g f (8 + 1) 0 ((g 63 f 0)))
set_option maxHeartbeats 4000000 in
set_option maxRecDepth 100000 in
theorem c_X4_markOfParts {G : vG} (hG : G.1.stackTraces = false) {A : vN → Nat} {g : vS} {r : vH} (f : Nat) (hf : g 105 f 0 ≠ 0) : vCt G yX4_markOfParts cX4_markOfParts 4 (some .int) 2 [.ref (A (30, f))] A (w g r) (fun v A2 h2 => v = some (.int (V_X4_markOfParts g f)) ∧ A2 = A ∧ h2 = w g r) (vNoX) 0 0 := by
  refine v_of hG (by decide +kernel) (Nat.le_of_ble_eq_true rfl) (lv := [(0, .ref (A (30, f)))]) rfl (fun X C hnx => ?_)
  have C : vC G X cX4_markOfParts 4 RX4 (some .int) "markOfParts" 2 0 0 := C
  refine v_aload_n (pc := 0) C dX4_markOfParts_0 0 rfl rfl ?_
  refine v_get (pc := 1) C (30, f) (v := .int ((g 63 f 0))) (ck_30 (g := g) hf) rfl 6 (by decide) inX4 wd_716 rfl rfl dX4_markOfParts_1 ?_
  refine v_istore_n (lv2 := [(1, .int ((g 63 f 0))), (0, .ref (A (30, f)))]) (pc := 4) C dX4_markOfParts_4 rfl (by decide) rfl ?_
  refine v_iconst (v := 0) (pc := 5) C dX4_markOfParts_5 rfl ?_
  refine v_istore_n (lv2 := [(2, .int (0)), (1, .int ((g 63 f 0))), (0, .ref (A (30, f)))]) (pc := 6) C dX4_markOfParts_6 rfl (by decide) rfl ?_
  have L_7 : ∀ (n : Nat) (i_7 : Nat) (x_7_1 : Int32), i_7 ≤ 8 → 8 + 1 ≤ i_7 + n → (V_X4_markOfParts g f) = VL_X4_markOfParts_7 g f n i_7 x_7_1 → V G 4 X A (w g r) 0 0 (vM G X (fun v A2 h2 => v = some (.int (V_X4_markOfParts g f)) ∧ A2 = A ∧ h2 = w g r) (vNoX) 0 0) 7 [(2, .int (nI i_7)), (1, .int (x_7_1)), (0, .ref (A (30, f)))] [] := by
    intro n
    induction n with
    | zero => intro i_7 x_7_1 hi_7 hc_7 eV_7; exact absurd hc_7 (by omega)
    | succ n ih =>
      intro i_7 x_7_1 hi_7 hc_7 eV_7
      have hq_7 : (nI i_7).toInt = (i_7 : Int) := nI_toInt (by omega)
      have hr_7 : (nI (i_7 + 1)).toInt = ((i_7 + 1 : Nat) : Int) := nI_toInt (by omega)
      refine v_iload_n (pc := 7) C dX4_markOfParts_7 0 rfl rfl ?_
      refine v_aload_n (pc := 8) C dX4_markOfParts_8 2 rfl rfl ?_
      refine v_get (pc := 9) C (30, f) (v := .ref (A (31, f))) (ck_30 (g := g) hf) rfl 8 (by decide) inX4 wd_718 rfl rfl dX4_markOfParts_9 ?_
      refine v_alen (pc := 12) C (31, f) (v := 8) (ck_31 (g := g) hf) rfl (by decide) dX4_markOfParts_12 ?_
      refine v_icmp_ge (pc := 13) (tgt := 44) C dX4_markOfParts_13 (by decide) (fun c_1 => ?_) (fun c_1 => ?_)
      · skip
        refine v_iload_n (pc := 44) C dX4_markOfParts_44 1 rfl rfl ?_
        exact v_iret (pc := 45) C (by decide) (by decide) dX4_markOfParts_45 ⟨(congrArg (fun q => some (Value.int q)) (by show _ = _; rw [eV_7, VL_X4_markOfParts_7, if_pos c_1])), rfl, rfl⟩
      · skip
        refine v_aload_n (pc := 16) C dX4_markOfParts_16 2 rfl rfl ?_
        refine v_get (pc := 17) C (30, f) (v := .ref (A (31, f))) (ck_30 (g := g) hf) rfl 8 (by decide) inX4 wd_718 rfl rfl dX4_markOfParts_17 ?_
        refine v_iload_n (pc := 20) C dX4_markOfParts_20 0 rfl rfl ?_
        rcases Classical.em ((g 106 f i_7) = 0) with c_2 | c_2
        · skip
          refine v_aaldN (pc := 21) C (31, f) (ck_31 (g := g) hf) rfl rfl (by (try simp only [Int32.le_iff_toInt_le, Int32.lt_iff_toInt_lt, ← Int32.toInt_inj, vp_in_iff, Int32.reduceToInt] at c_1 hq_7 hr_7 ⊢) <;> omega) ((congrArg (fun k => if g 106 f k = 0 then none else some (32, 8 * f + k)) (show (nI i_7 : Int32).toNatClampNeg = i_7 from (nI_clamp (by omega)))).trans ((if_pos c_2 : (fun k => if g 106 f k = 0 then none else some (32, 8 * f + k)) i_7 = none))) dX4_markOfParts_21 ?_
          refine v_astore_nN (lv2 := [(3, .null), (2, .int (nI i_7)), (1, .int (x_7_1)), (0, .ref (A (30, f)))]) (pc := 22) C dX4_markOfParts_22 rfl (by decide) rfl ?_
          refine v_aload_nN (pc := 23) C dX4_markOfParts_23 0 rfl rfl ?_
          refine v_ifnullN (tgt := 38) (pc := 24) C dX4_markOfParts_24 (by decide) ?_
          refine v_iinc (v := nI (i_7 + 1)) (lv2 := [(2, .int (nI (i_7 + 1))), (3, .null), (1, .int (x_7_1)), (0, .ref (A (30, f)))]) (pc := 38) C dX4_markOfParts_38 1 rfl (nI_1 _) (by decide) rfl ?_
          refine v_goto (tgt := 7) (pc := 41) C dX4_markOfParts_41 (by decide) ?_
          refine v_lv (lv2 := [(2, .int (nI (i_7 + 1))), (1, .int (x_7_1)), (0, .ref (A (30, f)))]) [0, 2, 3] rfl ?_
          exact ih (i_7 + 1) (x_7_1) (by (try simp only [Int32.le_iff_toInt_le, Int32.lt_iff_toInt_lt, ← Int32.toInt_inj, vp_in_iff, Int32.reduceToInt] at c_1 c_2 hq_7 hr_7 ⊢) <;> omega) (by omega)  (by rw [eV_7, VL_X4_markOfParts_7, if_neg c_1, if_pos c_2])
        · skip
          refine v_aald (pc := 21) C (31, f) (ck_31 (g := g) hf) rfl rfl (by (try simp only [Int32.le_iff_toInt_le, Int32.lt_iff_toInt_lt, ← Int32.toInt_inj, vp_in_iff, Int32.reduceToInt] at c_1 hq_7 hr_7 ⊢) <;> omega) (32, 8 * f + i_7) ((congrArg (fun k => if g 106 f k = 0 then none else some (32, 8 * f + k)) (show (nI i_7 : Int32).toNatClampNeg = i_7 from (nI_clamp (by omega)))).trans ((if_neg c_2 : (fun k => if g 106 f k = 0 then none else some (32, 8 * f + k)) i_7 = some (32, 8 * f + i_7)))) dX4_markOfParts_21 ?_
          refine v_astore_n (lv2 := [(3, .ref (A (32, 8 * f + i_7))), (2, .int (nI i_7)), (1, .int (x_7_1)), (0, .ref (A (30, f)))]) (pc := 22) C dX4_markOfParts_22 rfl (by decide) rfl ?_
          refine v_aload_n (pc := 23) C dX4_markOfParts_23 0 rfl rfl ?_
          refine v_ifnull (pc := 24) C dX4_markOfParts_24 ?_
          refine v_iload_n (pc := 27) C dX4_markOfParts_27 2 rfl rfl ?_
          refine v_aload_n (pc := 28) C dX4_markOfParts_28 0 rfl rfl ?_
          refine v_get (pc := 29) C (32, 8 * f + i_7) (v := .int ((g 58 f i_7))) (ck_32 (g := g) (by simp only [Int32.le_iff_toInt_le, Int32.lt_iff_toInt_lt, ← Int32.toInt_inj, Int32.reduceToInt] at c_1 c_2 hq_7 hr_7; omega) c_2) rfl 2 (by decide) inX6 wd_783 rfl rfl dX4_markOfParts_29 ?_
          refine v_iload_n (pc := 32) C dX4_markOfParts_32 1 rfl rfl ?_
          refine v_ixor (pc := 33) C dX4_markOfParts_33 ?_
          refine v_callS (pc := 34) C (c_X0_mix hG (x_7_1) (((g 58 f i_7) ^^^ nI i_7))) 2 wd_313 wd_78 wd_311 wd_312 (by decide +kernel) (by decide) (by decide) rfl ([]) rfl (Nat.le_of_ble_eq_true rfl) (by decide) dX4_markOfParts_34 (fun _ _ _ q => q.elim) (fun v9 A9 h9 hR9 => ?_)
          obtain ⟨rfl, hA9, rfl⟩ := hR9
          obtain rfl := hA9.symm
          refine v_st (k2 := 0) (n2 := 0) (st2 := [.int (pMix (x_7_1) (((g 58 f i_7) ^^^ nI i_7)))]) rfl rfl rfl ?_
          refine v_istore_n (lv2 := [(1, .int (pMix (x_7_1) (((g 58 f i_7) ^^^ nI i_7)))), (3, .ref (A (32, 8 * f + i_7))), (2, .int (nI i_7)), (0, .ref (A (30, f)))]) (pc := 37) C dX4_markOfParts_37 rfl (by decide) rfl ?_
          refine v_iinc (v := nI (i_7 + 1)) (lv2 := [(2, .int (nI (i_7 + 1))), (1, .int (pMix (x_7_1) (((g 58 f i_7) ^^^ nI i_7)))), (3, .ref (A (32, 8 * f + i_7))), (0, .ref (A (30, f)))]) (pc := 38) C dX4_markOfParts_38 2 rfl (nI_1 _) (by decide) rfl ?_
          refine v_goto (tgt := 7) (pc := 41) C dX4_markOfParts_41 (by decide) ?_
          refine v_lv (lv2 := [(2, .int (nI (i_7 + 1))), (1, .int (pMix (x_7_1) (((g 58 f i_7) ^^^ nI i_7)))), (0, .ref (A (30, f)))]) [0, 1, 3] rfl ?_
          exact ih (i_7 + 1) (pMix (x_7_1) (((g 58 f i_7) ^^^ nI i_7))) (by (try simp only [Int32.le_iff_toInt_le, Int32.lt_iff_toInt_lt, ← Int32.toInt_inj, vp_in_iff, Int32.reduceToInt] at c_1 c_2 hq_7 hr_7 ⊢) <;> omega) (by omega)  (by rw [eV_7, VL_X4_markOfParts_7, if_neg c_1, if_neg c_2])
  exact L_7 (8 + 1) 0 ((g 63 f 0)) (by omega) (by omega)  (by rw [V_X4_markOfParts])
def V_X4_isSpoiled (g : vS) (f : Nat) : Int32 := (if (g 52 f 0) = (V_X4_markOfParts g (f)) then 0 else 1)
theorem B_X4_isSpoiled {g : vS} {f : Nat} : V_X4_isSpoiled g f = 0 ∨ V_X4_isSpoiled g f = 1 := by
  unfold V_X4_isSpoiled
  (repeat' split) <;> first | exact Or.inl rfl | exact Or.inr rfl
set_option maxHeartbeats 4000000 in
set_option maxRecDepth 100000 in
theorem c_X4_isSpoiled {G : vG} (hG : G.1.stackTraces = false) {A : vN → Nat} {g : vS} {r : vH} (f : Nat) (hf : g 105 f 0 ≠ 0) : vCt G yX4_isSpoiled cX4_isSpoiled 1 (some .boolean) 3 [.ref (A (30, f))] A (w g r) (fun v A2 h2 => v = some (.int (V_X4_isSpoiled g f)) ∧ A2 = A ∧ h2 = w g r) (vNoX) 0 0 := by
  refine v_of hG (by decide +kernel) (Nat.le_of_ble_eq_true rfl) (lv := [(0, .ref (A (30, f)))]) rfl (fun X C hnx => ?_)
  have C : vC G X cX4_isSpoiled 1 RX4 (some .boolean) "isSpoiled" 3 0 0 := C
  refine v_aload_n (pc := 0) C dX4_isSpoiled_0 0 rfl rfl ?_
  refine v_get (pc := 1) C (30, f) (v := .int ((g 52 f 0))) (ck_30 (g := g) hf) rfl 4 (by decide) inX4 wd_713 rfl rfl dX4_isSpoiled_1 ?_
  refine v_aload_n (pc := 4) C dX4_isSpoiled_4 0 rfl rfl ?_
  refine v_callV (pc := 5) C (30, f) (ck_30 (g := g) hf) rfl (c_X4_markOfParts hG (f) hf) 0 wd_310 wd_80 wd_306 wd_308 wd_1 (by decide +kernel) (by decide) (by decide) rfl ([.int ((g 52 f 0))]) rfl (Nat.le_of_ble_eq_true rfl) (by decide) dX4_isSpoiled_5 (fun _ _ _ q => q.elim) (fun v9 A9 h9 hR9 => ?_)
  obtain ⟨rfl, hA9, rfl⟩ := hR9
  obtain rfl := hA9.symm
  refine v_st (k2 := 0) (n2 := 0) (st2 := [.int ((V_X4_markOfParts g (f))), .int ((g 52 f 0))]) rfl rfl rfl ?_
  refine v_icmp_eq (pc := 8) (tgt := 15) C dX4_isSpoiled_8 (by decide) (fun c_1 => ?_) (fun c_1 => ?_)
  · skip
    refine v_iconst (v := 0) (pc := 15) C dX4_isSpoiled_15 rfl ?_
    exact v_zret (pc := 16) C rfl (by decide) (by decide) dX4_isSpoiled_16 ⟨(congrArg (fun q => some (Value.int q)) (by show _ = _; rw [V_X4_isSpoiled, if_pos c_1])), rfl, rfl⟩
  · skip
    refine v_iconst (v := 1) (pc := 11) C dX4_isSpoiled_11 rfl ?_
    refine v_goto (tgt := 16) (pc := 12) C dX4_isSpoiled_12 (by decide) ?_
    exact v_zret (pc := 16) C rfl (by decide) (by decide) dX4_isSpoiled_16 ⟨(congrArg (fun q => some (Value.int q)) (by show _ = _; rw [V_X4_isSpoiled, if_neg c_1])), rfl, rfl⟩
def S_X4_turnKey (g : vS) (f : Nat) : vS := (s3 (s3 (s3 g 51 f 0 (((g 51 f 0) + 1))) 61 f 0 ((g 42 ((g 50 f 0)).toNatClampNeg 0))) 62 f 0 (pMix (pMix (4) ((g 66 f 0))) (((g 51 f 0) + 1))))
theorem F_X4_turnKey {g : vS} {f : Nat} {c i j : Nat} (h51 : c ≠ 51) (h61 : c ≠ 61) (h62 : c ≠ 62) : S_X4_turnKey g f c i j = g c i j := by
  unfold S_X4_turnKey
  (repeat' split) <;> first | rfl | ((simp only [s3_k h51, s3_k h61, s3_k h62]) <;> first | done | rfl)
set_option maxHeartbeats 4000000 in
set_option maxRecDepth 100000 in
theorem c_X4_turnKey {G : vG} (hG : G.1.stackTraces = false) {A : vN → Nat} {g : vS} {r : vH} (f : Nat) (hf : g 105 f 0 ≠ 0) (hgr : g 104 (g 50 f 0).toNatClampNeg 0 ≠ 0) : vCt G yX4_turnKey cX4_turnKey 1 none 2 [.ref (A (30, f))] A (w g r) (fun v A2 h2 => v = none ∧ A2 = A ∧ h2 = w (S_X4_turnKey g f) r) (vNoX) 0 0 := by
  refine v_of hG (by decide +kernel) (Nat.le_of_ble_eq_true rfl) (lv := [(0, .ref (A (30, f)))]) rfl (fun X C hnx => ?_)
  have C : vC G X cX4_turnKey 1 RX4 none "turnKey" 2 0 0 := C
  refine v_aload_n (pc := 0) C dX4_turnKey_0 0 rfl rfl ?_
  refine v_dup (pc := 1) C dX4_turnKey_1 rfl ?_
  refine v_get (pc := 2) C (30, f) (v := .int ((g 51 f 0))) (ck_30 (g := g) hf) rfl 2 (by decide) inX4 wd_710 rfl rfl dX4_turnKey_2 ?_
  refine v_iconst (v := 1) (pc := 5) C dX4_turnKey_5 rfl ?_
  refine v_iadd (pc := 6) C dX4_turnKey_6 ?_
  refine v_put (pc := 7) C (30, f) (v := .int (((g 51 f 0) + 1))) (ck_30 (g := g) hf) rfl 2 (by decide) inX4 tyX4 tyX4_ok nmX4 wd_710 rfl (.inl (Value.int (((g 51 f 0) + 1)))) rfl (ty := tyX4 2) (by decide +kernel) rfl rfl (Nat.le_of_ble_eq_true rfl) dX4_turnKey_7 ?_
  refine v_h (h2 := (w (s3 g 51 f 0 (((g 51 f 0) + 1))) r)) (u_30_2 (g := g) hf) ?_
  refine v_aload_n (pc := 10) C dX4_turnKey_10 0 rfl rfl ?_
  refine v_aload_n (pc := 11) C dX4_turnKey_11 0 rfl rfl ?_
  refine v_get (pc := 12) C (30, f) (v := .ref (A (27, ((g 50 f 0)).toNatClampNeg))) (ck_30 (g := (s3 g 51 f 0 (((g 51 f 0) + 1)))) hf) rfl 1 (by decide) inX4 wd_708 rfl rfl dX4_turnKey_12 ?_
  refine v_get (pc := 15) C (27, ((g 50 f 0)).toNatClampNeg) (v := .int ((g 42 ((g 50 f 0)).toNatClampNeg 0))) (ck_27 (g := (s3 g 51 f 0 (((g 51 f 0) + 1)))) hgr) rfl 4 (by decide) inX3 wd_545 rfl rfl dX4_turnKey_15 ?_
  refine v_put (pc := 18) C (30, f) (v := .int ((g 42 ((g 50 f 0)).toNatClampNeg 0))) (ck_30 (g := (s3 g 51 f 0 (((g 51 f 0) + 1)))) hf) rfl 3 (by decide) inX4 tyX4 tyX4_ok nmX4 wd_712 rfl (.inl (Value.int ((g 42 ((g 50 f 0)).toNatClampNeg 0)))) rfl (ty := tyX4 3) (by decide +kernel) rfl rfl (Nat.le_of_ble_eq_true rfl) dX4_turnKey_18 ?_
  refine v_h (h2 := (w (s3 (s3 g 51 f 0 (((g 51 f 0) + 1))) 61 f 0 ((g 42 ((g 50 f 0)).toNatClampNeg 0))) r)) (u_30_3 (g := (s3 g 51 f 0 (((g 51 f 0) + 1)))) hf) ?_
  refine v_aload_n (pc := 21) C dX4_turnKey_21 0 rfl rfl ?_
  refine v_iconst (v := 4) (pc := 22) C dX4_turnKey_22 rfl ?_
  refine v_aload_n (pc := 23) C dX4_turnKey_23 0 rfl rfl ?_
  refine v_get (pc := 24) C (30, f) (v := .int ((g 66 f 0))) (ck_30 (g := (s3 (s3 g 51 f 0 (((g 51 f 0) + 1))) 61 f 0 ((g 42 ((g 50 f 0)).toNatClampNeg 0)))) hf) rfl 0 (by decide) inX4 wd_706 rfl rfl dX4_turnKey_24 ?_
  refine v_callS (pc := 27) C (c_X0_mix hG (4) ((g 66 f 0))) 2 wd_313 wd_78 wd_311 wd_312 (by decide +kernel) (by decide) (by decide) rfl ([.ref (A (30, f))]) rfl (Nat.le_of_ble_eq_true rfl) (by decide) dX4_turnKey_27 (fun _ _ _ q => q.elim) (fun v9 A9 h9 hR9 => ?_)
  obtain ⟨rfl, hA9, rfl⟩ := hR9
  obtain rfl := hA9.symm
  refine v_st (k2 := 0) (n2 := 0) (st2 := [.int (pMix (4) ((g 66 f 0))), .ref (A (30, f))]) rfl rfl rfl ?_
  refine v_aload_n (pc := 30) C dX4_turnKey_30 0 rfl rfl ?_
  refine v_get (pc := 31) C (30, f) (v := .int (((g 51 f 0) + 1))) (ck_30 (g := (s3 (s3 g 51 f 0 (((g 51 f 0) + 1))) 61 f 0 ((g 42 ((g 50 f 0)).toNatClampNeg 0)))) hf) rfl 2 (by decide) inX4 wd_710 rfl (congrArg Value.int ((s3_k (by decide)).trans (s3_s))) dX4_turnKey_31 ?_
  refine v_callS (pc := 34) C (c_X0_mix hG (pMix (4) ((g 66 f 0))) (((g 51 f 0) + 1))) 2 wd_313 wd_78 wd_311 wd_312 (by decide +kernel) (by decide) (by decide) rfl ([.ref (A (30, f))]) rfl (Nat.le_of_ble_eq_true rfl) (by decide) dX4_turnKey_34 (fun _ _ _ q => q.elim) (fun v9 A9 h9 hR9 => ?_)
  obtain ⟨rfl, hA9, rfl⟩ := hR9
  obtain rfl := hA9.symm
  refine v_st (k2 := 0) (n2 := 0) (st2 := [.int (pMix (pMix (4) ((g 66 f 0))) (((g 51 f 0) + 1))), .ref (A (30, f))]) rfl rfl rfl ?_
  refine v_put (pc := 37) C (30, f) (v := .int (pMix (pMix (4) ((g 66 f 0))) (((g 51 f 0) + 1)))) (ck_30 (g := (s3 (s3 g 51 f 0 (((g 51 f 0) + 1))) 61 f 0 ((g 42 ((g 50 f 0)).toNatClampNeg 0)))) hf) rfl 7 (by decide) inX4 tyX4 tyX4_ok nmX4 wd_717 rfl (.inl (Value.int (pMix (pMix (4) ((g 66 f 0))) (((g 51 f 0) + 1))))) rfl (ty := tyX4 7) (by decide +kernel) rfl rfl (Nat.le_of_ble_eq_true rfl) dX4_turnKey_37 ?_
  refine v_h (h2 := (w (s3 (s3 (s3 g 51 f 0 (((g 51 f 0) + 1))) 61 f 0 ((g 42 ((g 50 f 0)).toNatClampNeg 0))) 62 f 0 (pMix (pMix (4) ((g 66 f 0))) (((g 51 f 0) + 1)))) r)) (u_30_7 (g := (s3 (s3 g 51 f 0 (((g 51 f 0) + 1))) 61 f 0 ((g 42 ((g 50 f 0)).toNatClampNeg 0)))) hf) ?_
  exact v_vret (pc := 40) C (by decide) (by decide) dX4_turnKey_40 ⟨rfl, rfl, (congrArg (fun q => w q r) (by show _ = _; rw [S_X4_turnKey]))⟩
def S_X4_sealPart (g : vS) (f : Nat) (p : Nat) (m : Int32) : vS := (s3 (s3 (s3 (s3 (s3 g 57 f p ((g 51 f 0))) 65 f p ((g 61 f 0))) 60 f p (m)) 64 f p (pMix ((g 62 f 0)) ((g 67 f p)))) 58 f p (pSeal ((g 59 f p)) (pMix ((g 62 f 0)) ((g 67 f p)))))
theorem F_X4_sealPart {g : vS} {f : Nat} {p : Nat} {m : Int32} {c i j : Nat} (h57 : c ≠ 57) (h58 : c ≠ 58) (h60 : c ≠ 60) (h64 : c ≠ 64) (h65 : c ≠ 65) : S_X4_sealPart g f p m c i j = g c i j := by
  unfold S_X4_sealPart
  (repeat' split) <;> first | rfl | ((simp only [s3_k h57, s3_k h58, s3_k h60, s3_k h64, s3_k h65]) <;> first | done | rfl)
set_option maxHeartbeats 4000000 in
set_option maxRecDepth 100000 in
theorem c_X4_sealPart {G : vG} (hG : G.1.stackTraces = false) {A : vN → Nat} {g : vS} {r : vH} (f : Nat) (p : Nat) (m : Int32) (hf : g 105 f 0 ≠ 0) (hp : p < 8) (he : g 106 f p ≠ 0) : vCt G yX4_sealPart cX4_sealPart 3 none 2 [.ref (A (30, f)), .ref (A (32, 8 * f + p)), .int (m)] A (w g r) (fun v A2 h2 => v = none ∧ A2 = A ∧ h2 = w (S_X4_sealPart g f p m) r) (vNoX) 0 0 := by
  refine v_of hG (by decide +kernel) (Nat.le_of_ble_eq_true rfl) (lv := [(0, .ref (A (30, f))), (1, .ref (A (32, 8 * f + p))), (2, .int (m))]) rfl (fun X C hnx => ?_)
  have C : vC G X cX4_sealPart 3 RX4 none "sealPart" 2 0 0 := C
  refine v_aload_n (pc := 0) C dX4_sealPart_0 1 rfl rfl ?_
  refine v_aload_n (pc := 1) C dX4_sealPart_1 0 rfl rfl ?_
  refine v_get (pc := 2) C (30, f) (v := .int ((g 51 f 0))) (ck_30 (g := g) hf) rfl 2 (by decide) inX4 wd_710 rfl rfl dX4_sealPart_2 ?_
  refine v_put (pc := 5) C (32, 8 * f + p) (v := .int ((g 51 f 0))) (ck_32 (g := g) hp he) rfl 4 (by decide) inX6 tyX6 tyX6_ok nmX6 wd_787 rfl (.inl (Value.int ((g 51 f 0)))) rfl (ty := tyX6 4) (by decide +kernel) rfl rfl (Nat.le_of_ble_eq_true rfl) dX4_sealPart_5 ?_
  refine v_h (h2 := (w (s3 g 57 f p ((g 51 f 0))) r)) (u_32_4 (g := g) hp he) ?_
  refine v_aload_n (pc := 8) C dX4_sealPart_8 1 rfl rfl ?_
  refine v_aload_n (pc := 9) C dX4_sealPart_9 0 rfl rfl ?_
  refine v_get (pc := 10) C (30, f) (v := .int ((g 61 f 0))) (ck_30 (g := (s3 g 57 f p ((g 51 f 0)))) hf) rfl 3 (by decide) inX4 wd_712 rfl rfl dX4_sealPart_10 ?_
  refine v_put (pc := 13) C (32, 8 * f + p) (v := .int ((g 61 f 0))) (ck_32 (g := (s3 g 57 f p ((g 51 f 0)))) hp he) rfl 5 (by decide) inX6 tyX6 tyX6_ok nmX6 wd_789 rfl (.inl (Value.int ((g 61 f 0)))) rfl (ty := tyX6 5) (by decide +kernel) rfl rfl (Nat.le_of_ble_eq_true rfl) dX4_sealPart_13 ?_
  refine v_h (h2 := (w (s3 (s3 g 57 f p ((g 51 f 0))) 65 f p ((g 61 f 0))) r)) (u_32_5 (g := (s3 g 57 f p ((g 51 f 0)))) hp he) ?_
  refine v_aload_n (pc := 16) C dX4_sealPart_16 1 rfl rfl ?_
  refine v_iload_n (pc := 17) C dX4_sealPart_17 2 rfl rfl ?_
  refine v_put (pc := 18) C (32, 8 * f + p) (v := .int (m)) (ck_32 (g := (s3 (s3 g 57 f p ((g 51 f 0))) 65 f p ((g 61 f 0)))) hp he) rfl 7 (by decide) inX6 tyX6 tyX6_ok nmX6 wd_792 rfl (.inl (Value.int (m))) rfl (ty := tyX6 7) (by decide +kernel) rfl rfl (Nat.le_of_ble_eq_true rfl) dX4_sealPart_18 ?_
  refine v_h (h2 := (w (s3 (s3 (s3 g 57 f p ((g 51 f 0))) 65 f p ((g 61 f 0))) 60 f p (m)) r)) (u_32_7 (g := (s3 (s3 g 57 f p ((g 51 f 0))) 65 f p ((g 61 f 0)))) hp he) ?_
  refine v_aload_n (pc := 21) C dX4_sealPart_21 1 rfl rfl ?_
  refine v_aload_n (pc := 22) C dX4_sealPart_22 0 rfl rfl ?_
  refine v_get (pc := 23) C (30, f) (v := .int ((g 62 f 0))) (ck_30 (g := (s3 (s3 (s3 g 57 f p ((g 51 f 0))) 65 f p ((g 61 f 0))) 60 f p (m))) hf) rfl 7 (by decide) inX4 wd_717 rfl rfl dX4_sealPart_23 ?_
  refine v_aload_n (pc := 26) C dX4_sealPart_26 1 rfl rfl ?_
  refine v_get (pc := 27) C (32, 8 * f + p) (v := .int ((g 67 f p))) (ck_32 (g := (s3 (s3 (s3 g 57 f p ((g 51 f 0))) 65 f p ((g 61 f 0))) 60 f p (m))) hp he) rfl 0 (by decide) inX6 wd_779 rfl rfl dX4_sealPart_27 ?_
  refine v_callS (pc := 30) C (c_X0_mix hG ((g 62 f 0)) ((g 67 f p))) 2 wd_313 wd_78 wd_311 wd_312 (by decide +kernel) (by decide) (by decide) rfl ([.ref (A (32, 8 * f + p))]) rfl (Nat.le_of_ble_eq_true rfl) (by decide) dX4_sealPart_30 (fun _ _ _ q => q.elim) (fun v9 A9 h9 hR9 => ?_)
  obtain ⟨rfl, hA9, rfl⟩ := hR9
  obtain rfl := hA9.symm
  refine v_st (k2 := 0) (n2 := 0) (st2 := [.int (pMix ((g 62 f 0)) ((g 67 f p))), .ref (A (32, 8 * f + p))]) rfl rfl rfl ?_
  refine v_put (pc := 33) C (32, 8 * f + p) (v := .int (pMix ((g 62 f 0)) ((g 67 f p)))) (ck_32 (g := (s3 (s3 (s3 g 57 f p ((g 51 f 0))) 65 f p ((g 61 f 0))) 60 f p (m))) hp he) rfl 3 (by decide) inX6 tyX6 tyX6_ok nmX6 wd_786 rfl (.inl (Value.int (pMix ((g 62 f 0)) ((g 67 f p))))) rfl (ty := tyX6 3) (by decide +kernel) rfl rfl (Nat.le_of_ble_eq_true rfl) dX4_sealPart_33 ?_
  refine v_h (h2 := (w (s3 (s3 (s3 (s3 g 57 f p ((g 51 f 0))) 65 f p ((g 61 f 0))) 60 f p (m)) 64 f p (pMix ((g 62 f 0)) ((g 67 f p)))) r)) (u_32_3 (g := (s3 (s3 (s3 g 57 f p ((g 51 f 0))) 65 f p ((g 61 f 0))) 60 f p (m))) hp he) ?_
  refine v_aload_n (pc := 36) C dX4_sealPart_36 1 rfl rfl ?_
  refine v_aload_n (pc := 37) C dX4_sealPart_37 1 rfl rfl ?_
  refine v_get (pc := 38) C (32, 8 * f + p) (v := .int ((g 59 f p))) (ck_32 (g := (s3 (s3 (s3 (s3 g 57 f p ((g 51 f 0))) 65 f p ((g 61 f 0))) 60 f p (m)) 64 f p (pMix ((g 62 f 0)) ((g 67 f p))))) hp he) rfl 1 (by decide) inX6 wd_780 rfl rfl dX4_sealPart_38 ?_
  refine v_aload_n (pc := 41) C dX4_sealPart_41 1 rfl rfl ?_
  refine v_get (pc := 42) C (32, 8 * f + p) (v := .int (pMix ((g 62 f 0)) ((g 67 f p)))) (ck_32 (g := (s3 (s3 (s3 (s3 g 57 f p ((g 51 f 0))) 65 f p ((g 61 f 0))) 60 f p (m)) 64 f p (pMix ((g 62 f 0)) ((g 67 f p))))) hp he) rfl 3 (by decide) inX6 wd_786 rfl (congrArg Value.int (s3_s)) dX4_sealPart_42 ?_
  refine v_callS (pc := 45) C (c_X0_seal hG ((g 59 f p)) (pMix ((g 62 f 0)) ((g 67 f p)))) 2 wd_316 wd_78 wd_650 wd_315 (by decide +kernel) (by decide) (by decide) rfl ([.ref (A (32, 8 * f + p))]) rfl (Nat.le_of_ble_eq_true rfl) (by decide) dX4_sealPart_45 (fun _ _ _ q => q.elim) (fun v9 A9 h9 hR9 => ?_)
  obtain ⟨rfl, hA9, rfl⟩ := hR9
  obtain rfl := hA9.symm
  refine v_st (k2 := 0) (n2 := 0) (st2 := [.int (pSeal ((g 59 f p)) (pMix ((g 62 f 0)) ((g 67 f p)))), .ref (A (32, 8 * f + p))]) rfl rfl rfl ?_
  refine v_put (pc := 48) C (32, 8 * f + p) (v := .int (pSeal ((g 59 f p)) (pMix ((g 62 f 0)) ((g 67 f p))))) (ck_32 (g := (s3 (s3 (s3 (s3 g 57 f p ((g 51 f 0))) 65 f p ((g 61 f 0))) 60 f p (m)) 64 f p (pMix ((g 62 f 0)) ((g 67 f p))))) hp he) rfl 2 (by decide) inX6 tyX6 tyX6_ok nmX6 wd_783 rfl (.inl (Value.int (pSeal ((g 59 f p)) (pMix ((g 62 f 0)) ((g 67 f p)))))) rfl (ty := tyX6 2) (by decide +kernel) rfl rfl (Nat.le_of_ble_eq_true rfl) dX4_sealPart_48 ?_
  refine v_h (h2 := (w (s3 (s3 (s3 (s3 (s3 g 57 f p ((g 51 f 0))) 65 f p ((g 61 f 0))) 60 f p (m)) 64 f p (pMix ((g 62 f 0)) ((g 67 f p)))) 58 f p (pSeal ((g 59 f p)) (pMix ((g 62 f 0)) ((g 67 f p))))) r)) (u_32_2 (g := (s3 (s3 (s3 (s3 g 57 f p ((g 51 f 0))) 65 f p ((g 61 f 0))) 60 f p (m)) 64 f p (pMix ((g 62 f 0)) ((g 67 f p))))) hp he) ?_
  exact v_vret (pc := 51) C (by decide) (by decide) dX4_sealPart_51 ⟨rfl, rfl, (congrArg (fun q => w q r) (by show _ = _; rw [S_X4_sealPart]))⟩
def VL_X4_writeAllAnew_8 (g : vS) (f : Nat) (m : Int32) : Nat → Nat → Int32 → vS → Int32
  | 0, _, _, _ => 0
  | n + 1, i_8, x_8_2, q_8 => (if 8 ≤ nI i_8 then x_8_2 else (if (g 106 f i_8) = 0 then (VL_X4_writeAllAnew_8 g f m n (i_8 + 1) (x_8_2) q_8) else (VL_X4_writeAllAnew_8 g f m n (i_8 + 1) ((x_8_2 + 1)) (S_X4_sealPart q_8 (f) (i_8) (m)))))
def SL_X4_writeAllAnew_8 (g : vS) (f : Nat) (m : Int32) : Nat → Nat → Int32 → vS → vS
  | 0, _, _, q9 => q9
  | n + 1, i_8, x_8_2, q_8 => (if 8 ≤ nI i_8 then (s3 q_8 52 f 0 ((V_X4_markOfParts q_8 (f)))) else (if (g 106 f i_8) = 0 then (SL_X4_writeAllAnew_8 g f m n (i_8 + 1) (x_8_2) q_8) else (SL_X4_writeAllAnew_8 g f m n (i_8 + 1) ((x_8_2 + 1)) (S_X4_sealPart q_8 (f) (i_8) (m)))))
def V_X4_writeAllAnew (g : vS) (f : Nat) (m : Int32) : Int32 := (VL_X4_writeAllAnew_8 g f m (8 + 1) 0 (0) (S_X4_turnKey g (f)))
def S_X4_writeAllAnew (g : vS) (f : Nat) (m : Int32) : vS := (SL_X4_writeAllAnew_8 g f m (8 + 1) 0 (0) (S_X4_turnKey g (f)))
theorem FL_X4_writeAllAnew_8 {g : vS} {f : Nat} {m : Int32} {c i j : Nat} (h51 : c ≠ 51) (h52 : c ≠ 52) (h57 : c ≠ 57) (h58 : c ≠ 58) (h60 : c ≠ 60) (h61 : c ≠ 61) (h62 : c ≠ 62) (h64 : c ≠ 64) (h65 : c ≠ 65) : ∀ (n : Nat) (a0 : Nat) (a1 : Int32) (a2 : vS), a2 c i j = g c i j → SL_X4_writeAllAnew_8 g f m n a0 a1 a2 c i j = g c i j := by
  intro n
  induction n with
  | zero => intro a0 a1 a2 hq9; exact hq9
  | succ n ih =>
    intro a0 a1 a2 hq9
    simp only [SL_X4_writeAllAnew_8]
    (repeat' split) <;> first | rfl | exact hq9 | (apply ih; first | exact hq9 | rfl | trivial | ((simp only [s3_k h51, s3_k h52, s3_k h57, s3_k h58, s3_k h60, s3_k h61, s3_k h62, s3_k h64, s3_k h65, F_X4_sealPart h57 h58 h60 h64 h65, F_X4_turnKey h51 h61 h62]) <;> first | done | exact hq9 | rfl)) | ((simp only [s3_k h51, s3_k h52, s3_k h57, s3_k h58, s3_k h60, s3_k h61, s3_k h62, s3_k h64, s3_k h65, F_X4_sealPart h57 h58 h60 h64 h65, F_X4_turnKey h51 h61 h62]) <;> first | done | exact hq9 | rfl)
theorem F_X4_writeAllAnew {g : vS} {f : Nat} {m : Int32} {c i j : Nat} (h51 : c ≠ 51) (h52 : c ≠ 52) (h57 : c ≠ 57) (h58 : c ≠ 58) (h60 : c ≠ 60) (h61 : c ≠ 61) (h62 : c ≠ 62) (h64 : c ≠ 64) (h65 : c ≠ 65) : S_X4_writeAllAnew g f m c i j = g c i j := by
  unfold S_X4_writeAllAnew
  (repeat' split) <;> first | rfl | (apply FL_X4_writeAllAnew_8 h51 h52 h57 h58 h60 h61 h62 h64 h65; first | rfl | trivial | ((simp only [s3_k h51, s3_k h52, s3_k h57, s3_k h58, s3_k h60, s3_k h61, s3_k h62, s3_k h64, s3_k h65, F_X4_sealPart h57 h58 h60 h64 h65, F_X4_turnKey h51 h61 h62]) <;> first | done | rfl)) | ((simp only [s3_k h51, s3_k h52, s3_k h57, s3_k h58, s3_k h60, s3_k h61, s3_k h62, s3_k h64, s3_k h65, F_X4_sealPart h57 h58 h60 h64 h65, F_X4_turnKey h51 h61 h62]) <;> first | done | rfl)
set_option maxHeartbeats 4000000 in
set_option maxRecDepth 100000 in
theorem c_X4_writeAllAnew {G : vG} (hG : G.1.stackTraces = false) {A : vN → Nat} {g : vS} {r : vH} (f : Nat) (m : Int32) (hf : g 105 f 0 ≠ 0) (hgr : g 104 (g 50 f 0).toNatClampNeg 0 ≠ 0) : vCt G yX4_writeAllAnew cX4_writeAllAnew 5 (some .int) 3 [.ref (A (30, f)), .int (m)] A (w g r) (fun v A2 h2 => v = some (.int (V_X4_writeAllAnew g f m)) ∧ A2 = A ∧ h2 = w (S_X4_writeAllAnew g f m) r) (vNoX) 0 0 := by
  refine v_of hG (by decide +kernel) (Nat.le_of_ble_eq_true rfl) (lv := [(0, .ref (A (30, f))), (1, .int (m))]) rfl (fun X C hnx => ?_)
  have C : vC G X cX4_writeAllAnew 5 RX4 (some .int) "writeAllAnew" 3 0 0 := C
  refine v_aload_n (pc := 0) C dX4_writeAllAnew_0 0 rfl rfl ?_
  refine v_callV (pc := 1) C (30, f) (ck_30 (g := g) hf) rfl (c_X4_turnKey hG (f) hf hgr) 0 wd_645 wd_80 wd_642 wd_644 wd_10 (by decide +kernel) (by decide) (by decide) rfl ([]) rfl (Nat.le_of_ble_eq_true rfl) (by decide) dX4_writeAllAnew_1 (fun _ _ _ q => q.elim) (fun v9 A9 h9 hR9 => ?_)
  obtain ⟨rfl, hA9, rfl⟩ := hR9
  obtain rfl := hA9.symm
  refine v_st (k2 := 0) (n2 := 0) (st2 := []) rfl rfl rfl ?_
  refine v_iconst (v := 0) (pc := 4) C dX4_writeAllAnew_4 rfl ?_
  refine v_istore_n (lv2 := [(2, .int (0)), (0, .ref (A (30, f))), (1, .int (m))]) (pc := 5) C dX4_writeAllAnew_5 rfl (by decide) rfl ?_
  refine v_iconst (v := 0) (pc := 6) C dX4_writeAllAnew_6 rfl ?_
  refine v_istore_n (lv2 := [(3, .int (0)), (2, .int (0)), (0, .ref (A (30, f))), (1, .int (m))]) (pc := 7) C dX4_writeAllAnew_7 rfl (by decide) rfl ?_
  have L_8 : ∀ (n : Nat) (i_8 : Nat) (x_8_2 : Int32) (q_8 : vS), i_8 ≤ 8 → 8 + 1 ≤ i_8 + n → (∀ (c i j : Nat), c ≠ 51 → c ≠ 57 → c ≠ 58 → c ≠ 60 → c ≠ 61 → c ≠ 62 → c ≠ 64 → c ≠ 65 → q_8 c i j = g c i j) → (V_X4_writeAllAnew g f m) = VL_X4_writeAllAnew_8 g f m n i_8 x_8_2 q_8 → (S_X4_writeAllAnew g f m) = SL_X4_writeAllAnew_8 g f m n i_8 x_8_2 q_8 → V G 5 X A (w q_8 r) 0 0 (vM G X (fun v A2 h2 => v = some (.int (V_X4_writeAllAnew g f m)) ∧ A2 = A ∧ h2 = w (S_X4_writeAllAnew g f m) r) (vNoX) 0 0) 8 [(3, .int (nI i_8)), (2, .int (x_8_2)), (0, .ref (A (30, f))), (1, .int (m))] [] := by
    intro n
    induction n with
    | zero => intro i_8 x_8_2 q_8 hi_8 hc_8 hF_8 eV_8 eS_8; exact absurd hc_8 (by omega)
    | succ n ih =>
      intro i_8 x_8_2 q_8 hi_8 hc_8 hF_8 eV_8 eS_8
      have hq_8 : (nI i_8).toInt = (i_8 : Int) := nI_toInt (by omega)
      have hr_8 : (nI (i_8 + 1)).toInt = ((i_8 + 1 : Nat) : Int) := nI_toInt (by omega)
      refine v_iload_n (pc := 8) C dX4_writeAllAnew_8 0 rfl rfl ?_
      refine v_aload_n (pc := 9) C dX4_writeAllAnew_9 2 rfl rfl ?_
      refine v_get (pc := 10) C (30, f) (v := .ref (A (31, f))) (ck_30 (g := q_8) (vtn (hF_8 _ _ _ (by decide) (by decide) (by decide) (by decide) (by decide) (by decide) (by decide) (by decide)) hf)) rfl 8 (by decide) inX4 wd_718 rfl rfl dX4_writeAllAnew_10 ?_
      refine v_alen (pc := 13) C (31, f) (v := 8) (ck_31 (g := q_8) (vtn (hF_8 _ _ _ (by decide) (by decide) (by decide) (by decide) (by decide) (by decide) (by decide) (by decide)) hf)) rfl (by decide) dX4_writeAllAnew_13 ?_
      refine v_icmp_ge (pc := 14) (tgt := 46) C dX4_writeAllAnew_14 (by decide) (fun c_1 => ?_) (fun c_1 => ?_)
      · skip
        refine v_aload_n (pc := 46) C dX4_writeAllAnew_46 2 rfl rfl ?_
        refine v_aload_n (pc := 47) C dX4_writeAllAnew_47 2 rfl rfl ?_
        refine v_callV (pc := 48) C (30, f) (ck_30 (g := q_8) (vtn (hF_8 _ _ _ (by decide) (by decide) (by decide) (by decide) (by decide) (by decide) (by decide) (by decide)) hf)) rfl (c_X4_markOfParts hG (f) (vtn (hF_8 _ _ _ (by decide) (by decide) (by decide) (by decide) (by decide) (by decide) (by decide) (by decide)) hf)) 0 wd_310 wd_80 wd_306 wd_308 wd_1 (by decide +kernel) (by decide) (by decide) rfl ([.ref (A (30, f))]) rfl (Nat.le_of_ble_eq_true rfl) (by decide) dX4_writeAllAnew_48 (fun _ _ _ q => q.elim) (fun v9 A9 h9 hR9 => ?_)
        obtain ⟨rfl, hA9, rfl⟩ := hR9
        obtain rfl := hA9.symm
        refine v_st (k2 := 0) (n2 := 0) (st2 := [.int ((V_X4_markOfParts q_8 (f))), .ref (A (30, f))]) rfl rfl rfl ?_
        refine v_put (pc := 51) C (30, f) (v := .int ((V_X4_markOfParts q_8 (f)))) (ck_30 (g := q_8) (vtn (hF_8 _ _ _ (by decide) (by decide) (by decide) (by decide) (by decide) (by decide) (by decide) (by decide)) hf)) rfl 4 (by decide) inX4 tyX4 tyX4_ok nmX4 wd_713 rfl (.inl (Value.int ((V_X4_markOfParts q_8 (f))))) rfl (ty := tyX4 4) (by decide +kernel) rfl rfl (Nat.le_of_ble_eq_true rfl) dX4_writeAllAnew_51 ?_
        refine v_h (h2 := (w (s3 q_8 52 f 0 ((V_X4_markOfParts q_8 (f)))) r)) (u_30_4 (g := q_8) (vtn (hF_8 _ _ _ (by decide) (by decide) (by decide) (by decide) (by decide) (by decide) (by decide) (by decide)) hf)) ?_
        refine v_iload_n (pc := 54) C dX4_writeAllAnew_54 1 rfl rfl ?_
        exact v_iret (pc := 55) C (by decide) (by decide) dX4_writeAllAnew_55 ⟨(congrArg (fun q => some (Value.int q)) (by show _ = _; rw [eV_8, VL_X4_writeAllAnew_8, if_pos c_1])), rfl, (congrArg (fun q => w q r) (by show _ = _; rw [eS_8, SL_X4_writeAllAnew_8, if_pos c_1]))⟩
      · skip
        refine v_aload_n (pc := 17) C dX4_writeAllAnew_17 2 rfl rfl ?_
        refine v_get (pc := 18) C (30, f) (v := .ref (A (31, f))) (ck_30 (g := q_8) (vtn (hF_8 _ _ _ (by decide) (by decide) (by decide) (by decide) (by decide) (by decide) (by decide) (by decide)) hf)) rfl 8 (by decide) inX4 wd_718 rfl rfl dX4_writeAllAnew_18 ?_
        refine v_iload_n (pc := 21) C dX4_writeAllAnew_21 0 rfl rfl ?_
        rcases Classical.em ((g 106 f i_8) = 0) with c_2 | c_2
        · skip
          refine v_aaldN (pc := 22) C (31, f) (ck_31 (g := q_8) (vtn (hF_8 _ _ _ (by decide) (by decide) (by decide) (by decide) (by decide) (by decide) (by decide) (by decide)) hf)) rfl rfl (by (try simp only [Int32.le_iff_toInt_le, Int32.lt_iff_toInt_lt, ← Int32.toInt_inj, vp_in_iff, Int32.reduceToInt] at c_1 hq_8 hr_8 ⊢) <;> omega) ((congrArg (fun k => if q_8 106 f k = 0 then none else some (32, 8 * f + k)) (show (nI i_8 : Int32).toNatClampNeg = i_8 from (nI_clamp (by omega)))).trans ((if_pos ((hF_8 _ _ _ (by decide) (by decide) (by decide) (by decide) (by decide) (by decide) (by decide) (by decide)).trans c_2) : (fun k => if q_8 106 f k = 0 then none else some (32, 8 * f + k)) i_8 = none))) dX4_writeAllAnew_22 ?_
          refine v_astoreN (lv2 := [(4, .null), (3, .int (nI i_8)), (2, .int (x_8_2)), (0, .ref (A (30, f))), (1, .int (m))]) (pc := 23) C dX4_writeAllAnew_23 (by decide) rfl ?_
          refine v_aloadN (pc := 25) C dX4_writeAllAnew_25 0 rfl ?_
          refine v_ifnullN (tgt := 40) (pc := 27) C dX4_writeAllAnew_27 (by decide) ?_
          refine v_iinc (v := nI (i_8 + 1)) (lv2 := [(3, .int (nI (i_8 + 1))), (4, .null), (2, .int (x_8_2)), (0, .ref (A (30, f))), (1, .int (m))]) (pc := 40) C dX4_writeAllAnew_40 1 rfl (nI_1 _) (by decide) rfl ?_
          refine v_goto (tgt := 8) (pc := 43) C dX4_writeAllAnew_43 (by decide) ?_
          refine v_lv (lv2 := [(3, .int (nI (i_8 + 1))), (2, .int (x_8_2)), (0, .ref (A (30, f))), (1, .int (m))]) [0, 2, 3, 4] rfl ?_
          exact ih (i_8 + 1) (x_8_2) q_8 (by (try simp only [Int32.le_iff_toInt_le, Int32.lt_iff_toInt_lt, ← Int32.toInt_inj, vp_in_iff, Int32.reduceToInt] at c_1 c_2 hq_8 hr_8 ⊢) <;> omega) (by omega) (fun c i j h51 h57 h58 h60 h61 h62 h64 h65 => hF_8 c i j h51 h57 h58 h60 h61 h62 h64 h65) (by rw [eV_8, VL_X4_writeAllAnew_8, if_neg c_1, if_pos c_2]) (by rw [eS_8, SL_X4_writeAllAnew_8, if_neg c_1, if_pos c_2])
        · skip
          refine v_aald (pc := 22) C (31, f) (ck_31 (g := q_8) (vtn (hF_8 _ _ _ (by decide) (by decide) (by decide) (by decide) (by decide) (by decide) (by decide) (by decide)) hf)) rfl rfl (by (try simp only [Int32.le_iff_toInt_le, Int32.lt_iff_toInt_lt, ← Int32.toInt_inj, vp_in_iff, Int32.reduceToInt] at c_1 hq_8 hr_8 ⊢) <;> omega) (32, 8 * f + i_8) ((congrArg (fun k => if q_8 106 f k = 0 then none else some (32, 8 * f + k)) (show (nI i_8 : Int32).toNatClampNeg = i_8 from (nI_clamp (by omega)))).trans ((if_neg (vtn (hF_8 _ _ _ (by decide) (by decide) (by decide) (by decide) (by decide) (by decide) (by decide) (by decide)) c_2) : (fun k => if q_8 106 f k = 0 then none else some (32, 8 * f + k)) i_8 = some (32, 8 * f + i_8)))) dX4_writeAllAnew_22 ?_
          refine v_astore (lv2 := [(4, .ref (A (32, 8 * f + i_8))), (3, .int (nI i_8)), (2, .int (x_8_2)), (0, .ref (A (30, f))), (1, .int (m))]) (pc := 23) C dX4_writeAllAnew_23 (by decide) rfl ?_
          refine v_aload (pc := 25) C dX4_writeAllAnew_25 0 rfl ?_
          refine v_ifnull (pc := 27) C dX4_writeAllAnew_27 ?_
          refine v_aload_n (pc := 30) C dX4_writeAllAnew_30 3 rfl rfl ?_
          refine v_aload (pc := 31) C dX4_writeAllAnew_31 0 rfl ?_
          refine v_iload_n (pc := 33) C dX4_writeAllAnew_33 4 rfl rfl ?_
          refine v_callV (pc := 34) C (30, f) (ck_30 (g := q_8) (vtn (hF_8 _ _ _ (by decide) (by decide) (by decide) (by decide) (by decide) (by decide) (by decide) (by decide)) hf)) rfl (c_X4_sealPart hG (f) (i_8) (m) (vtn (hF_8 _ _ _ (by decide) (by decide) (by decide) (by decide) (by decide) (by decide) (by decide) (by decide)) hf) (by simp only [Int32.le_iff_toInt_le, Int32.lt_iff_toInt_lt, ← Int32.toInt_inj, Int32.reduceToInt] at c_1 c_2 hq_8 hr_8; omega) (vtn (hF_8 _ _ _ (by decide) (by decide) (by decide) (by decide) (by decide) (by decide) (by decide) (by decide)) c_2)) 2 wd_649 wd_80 wd_646 wd_648 wd_11 (by decide +kernel) (by decide) (by decide) rfl ([]) rfl (Nat.le_of_ble_eq_true rfl) (by decide) dX4_writeAllAnew_34 (fun _ _ _ q => q.elim) (fun v9 A9 h9 hR9 => ?_)
          obtain ⟨rfl, hA9, rfl⟩ := hR9
          obtain rfl := hA9.symm
          refine v_st (k2 := 0) (n2 := 0) (st2 := []) rfl rfl rfl ?_
          refine v_iinc (v := (x_8_2 + 1)) (lv2 := [(2, .int ((x_8_2 + 1))), (4, .ref (A (32, 8 * f + i_8))), (3, .int (nI i_8)), (0, .ref (A (30, f))), (1, .int (m))]) (pc := 37) C dX4_writeAllAnew_37 2 rfl rfl (by decide) rfl ?_
          refine v_iinc (v := nI (i_8 + 1)) (lv2 := [(3, .int (nI (i_8 + 1))), (2, .int ((x_8_2 + 1))), (4, .ref (A (32, 8 * f + i_8))), (0, .ref (A (30, f))), (1, .int (m))]) (pc := 40) C dX4_writeAllAnew_40 2 rfl (nI_1 _) (by decide) rfl ?_
          refine v_goto (tgt := 8) (pc := 43) C dX4_writeAllAnew_43 (by decide) ?_
          refine v_lv (lv2 := [(3, .int (nI (i_8 + 1))), (2, .int ((x_8_2 + 1))), (0, .ref (A (30, f))), (1, .int (m))]) [0, 1, 3, 4] rfl ?_
          exact ih (i_8 + 1) ((x_8_2 + 1)) (S_X4_sealPart q_8 (f) (i_8) (m)) (by (try simp only [Int32.le_iff_toInt_le, Int32.lt_iff_toInt_lt, ← Int32.toInt_inj, vp_in_iff, Int32.reduceToInt] at c_1 c_2 hq_8 hr_8 ⊢) <;> omega) (by omega) (fun c i j h51 h57 h58 h60 h61 h62 h64 h65 => (F_X4_sealPart h57 h58 h60 h64 h65).trans (hF_8 c i j h51 h57 h58 h60 h61 h62 h64 h65)) (by rw [eV_8, VL_X4_writeAllAnew_8, if_neg c_1, if_neg c_2]) (by rw [eS_8, SL_X4_writeAllAnew_8, if_neg c_1, if_neg c_2])
  exact L_8 (8 + 1) 0 (0) (S_X4_turnKey g (f)) (by omega) (by omega) (fun c i j h51 h57 h58 h60 h61 h62 h64 h65 => F_X4_turnKey h51 h61 h62) (by rw [V_X4_writeAllAnew]) (by rw [S_X4_writeAllAnew])
