def vEx (n : Nat) : String := if n = 1 then "java/util/NoSuchElementException" else if n = 2 then "java/lang/IllegalArgumentException" else if n = 3 then "java/lang/IllegalStateException" else if n = 4 then "java/lang/UnsupportedOperationException" else if n = 5 then "java/lang/IndexOutOfBoundsException" else "java/lang/ArithmeticException"

def V_X3_hasMember (g : vS) (gi : Nat) (u : Int32) : Int32 := (if u < 0 then 0 else (if 6 ≤ u then 0 else (if (g 44 gi (u).toNatClampNeg) = 0 then 0 else 1)))
theorem B_X3_hasMember {g : vS} {gi : Nat} {u : Int32} : V_X3_hasMember g gi u = 0 ∨ V_X3_hasMember g gi u = 1 := by
  unfold V_X3_hasMember
  (repeat' split) <;> first | exact Or.inl rfl | exact Or.inr rfl
set_option maxHeartbeats 4000000 in
set_option maxRecDepth 100000 in
theorem c_X3_hasMember {G : vG} (hG : G.1.stackTraces = false) {A : vN → Nat} {g : vS} {r : vH} (gi : Nat) (u : Int32) (hg : g 104 gi 0 ≠ 0) : vCt G yX3_hasMember cX3_hasMember 2 (some .boolean) 0 [.ref (A (27, gi)), .int (u)] A (w g r) (fun v A2 h2 => v = some (.int (V_X3_hasMember g gi u)) ∧ A2 = A ∧ h2 = w g r) (vNoX) 0 0 := by
  refine v_of hG (by decide +kernel) (Nat.le_of_ble_eq_true rfl) (lv := [(0, .ref (A (27, gi))), (1, .int (u))]) rfl (fun X C hnx => ?_)
  have C : vC G X cX3_hasMember 2 RX3 (some .boolean) "hasMember" 0 0 0 := C
  refine v_iload_n (pc := 0) C dX3_hasMember_0 1 rfl rfl ?_
  refine v_if_lt (pc := 1) (tgt := 26) C dX3_hasMember_1 (by decide) (fun c_1 => ?_) (fun c_1 => ?_)
  · skip
    refine v_iconst (v := 0) (pc := 26) C dX3_hasMember_26 rfl ?_
    exact v_zret (pc := 27) C rfl (by decide) (by decide) dX3_hasMember_27 ⟨(congrArg (fun q => some (Value.int q)) (by show _ = _; rw [V_X3_hasMember, if_pos c_1])), rfl, rfl⟩
  · skip
    refine v_iload_n (pc := 4) C dX3_hasMember_4 1 rfl rfl ?_
    refine v_aload_n (pc := 5) C dX3_hasMember_5 0 rfl rfl ?_
    refine v_get (pc := 6) C (27, gi) (v := .ref (A (28, gi))) (ck_27 (g := g) hg) rfl 6 (by decide) inX3 wd_550 rfl rfl dX3_hasMember_6 ?_
    refine v_alen (pc := 9) C (28, gi) (v := 6) (ck_28 (g := g) hg) rfl (by decide) dX3_hasMember_9 ?_
    refine v_icmp_ge (pc := 10) (tgt := 26) C dX3_hasMember_10 (by decide) (fun c_2 => ?_) (fun c_2 => ?_)
    · skip
      refine v_iconst (v := 0) (pc := 26) C dX3_hasMember_26 rfl ?_
      exact v_zret (pc := 27) C rfl (by decide) (by decide) dX3_hasMember_27 ⟨(congrArg (fun q => some (Value.int q)) (by show _ = _; rw [V_X3_hasMember, if_neg c_1, if_pos c_2])), rfl, rfl⟩
    · skip
      refine v_aload_n (pc := 13) C dX3_hasMember_13 0 rfl rfl ?_
      refine v_get (pc := 14) C (27, gi) (v := .ref (A (28, gi))) (ck_27 (g := g) hg) rfl 6 (by decide) inX3 wd_550 rfl rfl dX3_hasMember_14 ?_
      refine v_iload_n (pc := 17) C dX3_hasMember_17 1 rfl rfl ?_
      refine v_zald (pc := 18) C (28, gi) (v := (g 44 gi (u).toNatClampNeg)) (ck_28 (g := g) hg) (by (try simp only [Int32.le_iff_toInt_le, Int32.lt_iff_toInt_lt, ← Int32.toInt_inj, vp_in_iff, Int32.reduceToInt] at c_1 c_2 ⊢) <;> omega) rfl dX3_hasMember_18 ?_
      refine v_if_eq (pc := 19) (tgt := 26) C dX3_hasMember_19 (by decide) (fun c_3 => ?_) (fun c_3 => ?_)
      · skip
        refine v_iconst (v := 0) (pc := 26) C dX3_hasMember_26 rfl ?_
        exact v_zret (pc := 27) C rfl (by decide) (by decide) dX3_hasMember_27 ⟨(congrArg (fun q => some (Value.int q)) (by show _ = _; rw [V_X3_hasMember, if_neg c_1, if_neg c_2, if_pos c_3])), rfl, rfl⟩
      · skip
        refine v_iconst (v := 1) (pc := 22) C dX3_hasMember_22 rfl ?_
        refine v_goto (tgt := 27) (pc := 23) C dX3_hasMember_23 (by decide) ?_
        exact v_zret (pc := 27) C rfl (by decide) (by decide) dX3_hasMember_27 ⟨(congrArg (fun q => some (Value.int q)) (by show _ = _; rw [V_X3_hasMember, if_neg c_1, if_neg c_2, if_neg c_3])), rfl, rfl⟩
def S_X3_takeIn (g : vS) (gi : Nat) (u : Int32) : vS := (if u < 0 then g else (if 6 ≤ u then g else (s3 (s3 g 44 gi (u).toNatClampNeg (1)) 43 gi 0 (((g 43 gi 0) + 1)))))
theorem F_X3_takeIn {g : vS} {gi : Nat} {u : Int32} {c i j : Nat} (h43 : c ≠ 43) (h44 : c ≠ 44) : S_X3_takeIn g gi u c i j = g c i j := by
  unfold S_X3_takeIn
  (repeat' split) <;> first | rfl | ((simp only [s3_k h43, s3_k h44]) <;> first | done | rfl)
set_option maxHeartbeats 4000000 in
set_option maxRecDepth 100000 in
theorem c_X3_takeIn {G : vG} (hG : G.1.stackTraces = false) {A : vN → Nat} {g : vS} {r : vH} (gi : Nat) (u : Int32) (hg : g 104 gi 0 ≠ 0) : vCt G yX3_takeIn cX3_takeIn 2 none 0 [.ref (A (27, gi)), .int (u)] A (w g r) (fun v A2 h2 => v = none ∧ A2 = A ∧ h2 = w (S_X3_takeIn g gi u) r) (vNoX) 0 0 := by
  refine v_of hG (by decide +kernel) (Nat.le_of_ble_eq_true rfl) (lv := [(0, .ref (A (27, gi))), (1, .int (u))]) rfl (fun X C hnx => ?_)
  have C : vC G X cX3_takeIn 2 RX3 none "takeIn" 0 0 0 := C
  refine v_iload_n (pc := 0) C dX3_takeIn_0 1 rfl rfl ?_
  refine v_if_lt (pc := 1) (tgt := 30) C dX3_takeIn_1 (by decide) (fun c_1 => ?_) (fun c_1 => ?_)
  · skip
    exact v_vret (pc := 30) C (by decide) (by decide) dX3_takeIn_30 ⟨rfl, rfl, (congrArg (fun q => w q r) (by show _ = _; rw [S_X3_takeIn, if_pos c_1]))⟩
  · skip
    refine v_iload_n (pc := 4) C dX3_takeIn_4 1 rfl rfl ?_
    refine v_aload_n (pc := 5) C dX3_takeIn_5 0 rfl rfl ?_
    refine v_get (pc := 6) C (27, gi) (v := .ref (A (28, gi))) (ck_27 (g := g) hg) rfl 6 (by decide) inX3 wd_550 rfl rfl dX3_takeIn_6 ?_
    refine v_alen (pc := 9) C (28, gi) (v := 6) (ck_28 (g := g) hg) rfl (by decide) dX3_takeIn_9 ?_
    refine v_icmp_ge (pc := 10) (tgt := 30) C dX3_takeIn_10 (by decide) (fun c_2 => ?_) (fun c_2 => ?_)
    · skip
      exact v_vret (pc := 30) C (by decide) (by decide) dX3_takeIn_30 ⟨rfl, rfl, (congrArg (fun q => w q r) (by show _ = _; rw [S_X3_takeIn, if_neg c_1, if_pos c_2]))⟩
    · skip
      refine v_aload_n (pc := 13) C dX3_takeIn_13 0 rfl rfl ?_
      refine v_get (pc := 14) C (27, gi) (v := .ref (A (28, gi))) (ck_27 (g := g) hg) rfl 6 (by decide) inX3 wd_550 rfl rfl dX3_takeIn_14 ?_
      refine v_iload_n (pc := 17) C dX3_takeIn_17 1 rfl rfl ?_
      refine v_iconst (v := 1) (pc := 18) C dX3_takeIn_18 rfl ?_
      refine v_zast (pc := 19) C (28, gi) (x := 1) (ck_28 (g := g) hg) (by (try simp only [Int32.le_iff_toInt_le, Int32.lt_iff_toInt_lt, ← Int32.toInt_inj, vp_in_iff, Int32.reduceToInt] at c_1 c_2 ⊢) <;> omega) (by decide) dX3_takeIn_19 ?_
      refine v_h (h2 := (w (s3 g 44 gi (u).toNatClampNeg (1)) r)) (u_28_a (g := g) hg) ?_
      refine v_aload_n (pc := 20) C dX3_takeIn_20 0 rfl rfl ?_
      refine v_dup (pc := 21) C dX3_takeIn_21 rfl ?_
      refine v_get (pc := 22) C (27, gi) (v := .int ((g 43 gi 0))) (ck_27 (g := (s3 g 44 gi (u).toNatClampNeg (1))) hg) rfl 5 (by decide) inX3 wd_548 rfl rfl dX3_takeIn_22 ?_
      refine v_iconst (v := 1) (pc := 25) C dX3_takeIn_25 rfl ?_
      refine v_iadd (pc := 26) C dX3_takeIn_26 ?_
      refine v_put (pc := 27) C (27, gi) (v := .int (((g 43 gi 0) + 1))) (ck_27 (g := (s3 g 44 gi (u).toNatClampNeg (1))) hg) rfl 5 (by decide) inX3 tyX3 tyX3_ok nmX3 wd_548 rfl (.inl (Value.int (((g 43 gi 0) + 1)))) rfl (ty := tyX3 5) (by decide +kernel) rfl rfl (Nat.le_of_ble_eq_true rfl) dX3_takeIn_27 ?_
      refine v_h (h2 := (w (s3 (s3 g 44 gi (u).toNatClampNeg (1)) 43 gi 0 (((g 43 gi 0) + 1))) r)) (u_27_5 (g := (s3 g 44 gi (u).toNatClampNeg (1))) hg) ?_
      exact v_vret (pc := 30) C (by decide) (by decide) dX3_takeIn_30 ⟨rfl, rfl, (congrArg (fun q => w q r) (by show _ = _; rw [S_X3_takeIn, if_neg c_1, if_neg c_2]))⟩
def S_X3_letGo (g : vS) (gi : Nat) (u : Int32) : vS := (if u < 0 then g else (if 6 ≤ u then g else (if 6 ≤ u then g else (s3 (s3 (s3 (s3 g 44 gi (u).toNatClampNeg (0)) 43 gi 0 (((g 43 gi 0) - 1))) 47 gi (u).toNatClampNeg (((g 42 gi 0) + 1))) 42 gi 0 (((g 42 gi 0) + 1))))))
theorem F_X3_letGo {g : vS} {gi : Nat} {u : Int32} {c i j : Nat} (h42 : c ≠ 42) (h43 : c ≠ 43) (h44 : c ≠ 44) (h47 : c ≠ 47) : S_X3_letGo g gi u c i j = g c i j := by
  unfold S_X3_letGo
  (repeat' split) <;> first | rfl | ((simp only [s3_k h42, s3_k h43, s3_k h44, s3_k h47]) <;> first | done | rfl)
set_option maxHeartbeats 4000000 in
set_option maxRecDepth 100000 in
theorem c_X3_letGo {G : vG} (hG : G.1.stackTraces = false) {A : vN → Nat} {g : vS} {r : vH} (gi : Nat) (u : Int32) (hg : g 104 gi 0 ≠ 0) : vCt G yX3_letGo cX3_letGo 2 none 0 [.ref (A (27, gi)), .int (u)] A (w g r) (fun v A2 h2 => v = none ∧ A2 = A ∧ h2 = w (S_X3_letGo g gi u) r) (vNoX) 0 0 := by
  refine v_of hG (by decide +kernel) (Nat.le_of_ble_eq_true rfl) (lv := [(0, .ref (A (27, gi))), (1, .int (u))]) rfl (fun X C hnx => ?_)
  have C : vC G X cX3_letGo 2 RX3 none "letGo" 0 0 0 := C
  refine v_iload_n (pc := 0) C dX3_letGo_0 1 rfl rfl ?_
  refine v_if_lt (pc := 1) (tgt := 61) C dX3_letGo_1 (by decide) (fun c_1 => ?_) (fun c_1 => ?_)
  · skip
    exact v_vret (pc := 61) C (by decide) (by decide) dX3_letGo_61 ⟨rfl, rfl, (congrArg (fun q => w q r) (by show _ = _; rw [S_X3_letGo, if_pos c_1]))⟩
  · skip
    refine v_iload_n (pc := 4) C dX3_letGo_4 1 rfl rfl ?_
    refine v_aload_n (pc := 5) C dX3_letGo_5 0 rfl rfl ?_
    refine v_get (pc := 6) C (27, gi) (v := .ref (A (28, gi))) (ck_27 (g := g) hg) rfl 6 (by decide) inX3 wd_550 rfl rfl dX3_letGo_6 ?_
    refine v_alen (pc := 9) C (28, gi) (v := 6) (ck_28 (g := g) hg) rfl (by decide) dX3_letGo_9 ?_
    refine v_icmp_ge (pc := 10) (tgt := 61) C dX3_letGo_10 (by decide) (fun c_2 => ?_) (fun c_2 => ?_)
    · skip
      exact v_vret (pc := 61) C (by decide) (by decide) dX3_letGo_61 ⟨rfl, rfl, (congrArg (fun q => w q r) (by show _ = _; rw [S_X3_letGo, if_neg c_1, if_pos c_2]))⟩
    · skip
      refine v_iload_n (pc := 13) C dX3_letGo_13 1 rfl rfl ?_
      refine v_aload_n (pc := 14) C dX3_letGo_14 0 rfl rfl ?_
      refine v_get (pc := 15) C (27, gi) (v := .ref (A (29, gi))) (ck_27 (g := g) hg) rfl 7 (by decide) inX3 wd_551 rfl rfl dX3_letGo_15 ?_
      refine v_alen (pc := 18) C (29, gi) (v := 6) (ck_29 (g := g) hg) rfl (by decide) dX3_letGo_18 ?_
      refine v_icmp_ge (pc := 19) (tgt := 61) C dX3_letGo_19 (by decide) (fun c_3 => ?_) (fun c_3 => ?_)
      · skip
        exact v_vret (pc := 61) C (by decide) (by decide) dX3_letGo_61 ⟨rfl, rfl, (congrArg (fun q => w q r) (by show _ = _; rw [S_X3_letGo, if_neg c_1, if_neg c_2, if_pos c_3]))⟩
      · skip
        refine v_aload_n (pc := 22) C dX3_letGo_22 0 rfl rfl ?_
        refine v_get (pc := 23) C (27, gi) (v := .ref (A (28, gi))) (ck_27 (g := g) hg) rfl 6 (by decide) inX3 wd_550 rfl rfl dX3_letGo_23 ?_
        refine v_iload_n (pc := 26) C dX3_letGo_26 1 rfl rfl ?_
        refine v_iconst (v := 0) (pc := 27) C dX3_letGo_27 rfl ?_
        refine v_zast (pc := 28) C (28, gi) (x := 0) (ck_28 (g := g) hg) (by (try simp only [Int32.le_iff_toInt_le, Int32.lt_iff_toInt_lt, ← Int32.toInt_inj, vp_in_iff, Int32.reduceToInt] at c_1 c_2 c_3 ⊢) <;> omega) (by decide) dX3_letGo_28 ?_
        refine v_h (h2 := (w (s3 g 44 gi (u).toNatClampNeg (0)) r)) (u_28_a (g := g) hg) ?_
        refine v_aload_n (pc := 29) C dX3_letGo_29 0 rfl rfl ?_
        refine v_dup (pc := 30) C dX3_letGo_30 rfl ?_
        refine v_get (pc := 31) C (27, gi) (v := .int ((g 43 gi 0))) (ck_27 (g := (s3 g 44 gi (u).toNatClampNeg (0))) hg) rfl 5 (by decide) inX3 wd_548 rfl rfl dX3_letGo_31 ?_
        refine v_iconst (v := 1) (pc := 34) C dX3_letGo_34 rfl ?_
        refine v_isub (pc := 35) C dX3_letGo_35 ?_
        refine v_put (pc := 36) C (27, gi) (v := .int (((g 43 gi 0) - 1))) (ck_27 (g := (s3 g 44 gi (u).toNatClampNeg (0))) hg) rfl 5 (by decide) inX3 tyX3 tyX3_ok nmX3 wd_548 rfl (.inl (Value.int (((g 43 gi 0) - 1)))) rfl (ty := tyX3 5) (by decide +kernel) rfl rfl (Nat.le_of_ble_eq_true rfl) dX3_letGo_36 ?_
        refine v_h (h2 := (w (s3 (s3 g 44 gi (u).toNatClampNeg (0)) 43 gi 0 (((g 43 gi 0) - 1))) r)) (u_27_5 (g := (s3 g 44 gi (u).toNatClampNeg (0))) hg) ?_
        refine v_aload_n (pc := 39) C dX3_letGo_39 0 rfl rfl ?_
        refine v_get (pc := 40) C (27, gi) (v := .ref (A (29, gi))) (ck_27 (g := (s3 (s3 g 44 gi (u).toNatClampNeg (0)) 43 gi 0 (((g 43 gi 0) - 1)))) hg) rfl 7 (by decide) inX3 wd_551 rfl rfl dX3_letGo_40 ?_
        refine v_iload_n (pc := 43) C dX3_letGo_43 1 rfl rfl ?_
        refine v_aload_n (pc := 44) C dX3_letGo_44 0 rfl rfl ?_
        refine v_get (pc := 45) C (27, gi) (v := .int ((g 42 gi 0))) (ck_27 (g := (s3 (s3 g 44 gi (u).toNatClampNeg (0)) 43 gi 0 (((g 43 gi 0) - 1)))) hg) rfl 4 (by decide) inX3 wd_546 rfl rfl dX3_letGo_45 ?_
        refine v_iconst (v := 1) (pc := 48) C dX3_letGo_48 rfl ?_
        refine v_iadd (pc := 49) C dX3_letGo_49 ?_
        refine v_iast (pc := 50) C (29, gi) (x := ((g 42 gi 0) + 1)) (ck_29 (g := (s3 (s3 g 44 gi (u).toNatClampNeg (0)) 43 gi 0 (((g 43 gi 0) - 1)))) hg) (by (try simp only [Int32.le_iff_toInt_le, Int32.lt_iff_toInt_lt, ← Int32.toInt_inj, vp_in_iff, Int32.reduceToInt] at c_1 c_2 c_3 ⊢) <;> omega) dX3_letGo_50 ?_
        refine v_h (h2 := (w (s3 (s3 (s3 g 44 gi (u).toNatClampNeg (0)) 43 gi 0 (((g 43 gi 0) - 1))) 47 gi (u).toNatClampNeg (((g 42 gi 0) + 1))) r)) (u_29_a (g := (s3 (s3 g 44 gi (u).toNatClampNeg (0)) 43 gi 0 (((g 43 gi 0) - 1)))) hg) ?_
        refine v_aload_n (pc := 51) C dX3_letGo_51 0 rfl rfl ?_
        refine v_dup (pc := 52) C dX3_letGo_52 rfl ?_
        refine v_get (pc := 53) C (27, gi) (v := .int ((g 42 gi 0))) (ck_27 (g := (s3 (s3 (s3 g 44 gi (u).toNatClampNeg (0)) 43 gi 0 (((g 43 gi 0) - 1))) 47 gi (u).toNatClampNeg (((g 42 gi 0) + 1)))) hg) rfl 4 (by decide) inX3 wd_546 rfl rfl dX3_letGo_53 ?_
        refine v_iconst (v := 1) (pc := 56) C dX3_letGo_56 rfl ?_
        refine v_iadd (pc := 57) C dX3_letGo_57 ?_
        refine v_put (pc := 58) C (27, gi) (v := .int (((g 42 gi 0) + 1))) (ck_27 (g := (s3 (s3 (s3 g 44 gi (u).toNatClampNeg (0)) 43 gi 0 (((g 43 gi 0) - 1))) 47 gi (u).toNatClampNeg (((g 42 gi 0) + 1)))) hg) rfl 4 (by decide) inX3 tyX3 tyX3_ok nmX3 wd_546 rfl (.inl (Value.int (((g 42 gi 0) + 1)))) rfl (ty := tyX3 4) (by decide +kernel) rfl rfl (Nat.le_of_ble_eq_true rfl) dX3_letGo_58 ?_
        refine v_h (h2 := (w (s3 (s3 (s3 (s3 g 44 gi (u).toNatClampNeg (0)) 43 gi 0 (((g 43 gi 0) - 1))) 47 gi (u).toNatClampNeg (((g 42 gi 0) + 1))) 42 gi 0 (((g 42 gi 0) + 1))) r)) (u_27_4 (g := (s3 (s3 (s3 g 44 gi (u).toNatClampNeg (0)) 43 gi 0 (((g 43 gi 0) - 1))) 47 gi (u).toNatClampNeg (((g 42 gi 0) + 1)))) hg) ?_
        exact v_vret (pc := 61) C (by decide) (by decide) dX3_letGo_61 ⟨rfl, rfl, (congrArg (fun q => w q r) (by show _ = _; rw [S_X3_letGo, if_neg c_1, if_neg c_2, if_neg c_3]))⟩
def V_X3_latestKnownTo (g : vS) (gi : Nat) (u : Int32) : Int32 := (if (V_X3_hasMember g (gi) (u)) = 0 then (if u < 0 then -1 else (if 6 ≤ u then -1 else ((g 47 gi (u).toNatClampNeg) - 1))) else (g 42 gi 0))
set_option maxHeartbeats 4000000 in
set_option maxRecDepth 100000 in
theorem c_X3_latestKnownTo {G : vG} (hG : G.1.stackTraces = false) {A : vN → Nat} {g : vS} {r : vH} (gi : Nat) (u : Int32) (hg : g 104 gi 0 ≠ 0) : vCt G yX3_latestKnownTo cX3_latestKnownTo 2 (some .int) 1 [.ref (A (27, gi)), .int (u)] A (w g r) (fun v A2 h2 => v = some (.int (V_X3_latestKnownTo g gi u)) ∧ A2 = A ∧ h2 = w g r) (vNoX) 0 0 := by
  refine v_of hG (by decide +kernel) (Nat.le_of_ble_eq_true rfl) (lv := [(0, .ref (A (27, gi))), (1, .int (u))]) rfl (fun X C hnx => ?_)
  have C : vC G X cX3_latestKnownTo 2 RX3 (some .int) "latestKnownTo" 1 0 0 := C
  refine v_aload_n (pc := 0) C dX3_latestKnownTo_0 0 rfl rfl ?_
  refine v_iload_n (pc := 1) C dX3_latestKnownTo_1 1 rfl rfl ?_
  refine v_callV (pc := 2) C (27, gi) (ck_27 (g := g) hg) rfl (c_X3_hasMember hG (gi) (u) hg) 1 wd_349 wd_77 wd_346 wd_347 wd_348 (by decide +kernel) (by decide) (by decide) rfl ([]) rfl (Nat.le_of_ble_eq_true rfl) (by decide) dX3_latestKnownTo_2 (fun _ _ _ q => q.elim) (fun v9 A9 h9 hR9 => ?_)
  obtain ⟨rfl, hA9, rfl⟩ := hR9
  obtain rfl := hA9.symm
  refine v_st (k2 := 0) (n2 := 0) (st2 := [.int ((V_X3_hasMember g (gi) (u)))]) rfl rfl rfl ?_
  refine v_if_eq (pc := 5) (tgt := 13) C dX3_latestKnownTo_5 (by decide) (fun c_1 => ?_) (fun c_1 => ?_)
  · skip
    refine v_iload_n (pc := 13) C dX3_latestKnownTo_13 1 rfl rfl ?_
    refine v_if_lt (pc := 14) (tgt := 37) C dX3_latestKnownTo_14 (by decide) (fun c_2 => ?_) (fun c_2 => ?_)
    · skip
      refine v_iconst (v := -1) (pc := 37) C dX3_latestKnownTo_37 rfl ?_
      exact v_iret (pc := 38) C (by decide) (by decide) dX3_latestKnownTo_38 ⟨(congrArg (fun q => some (Value.int q)) (by show _ = _; rw [V_X3_latestKnownTo, if_pos c_1, if_pos c_2])), rfl, rfl⟩
    · skip
      refine v_iload_n (pc := 17) C dX3_latestKnownTo_17 1 rfl rfl ?_
      refine v_aload_n (pc := 18) C dX3_latestKnownTo_18 0 rfl rfl ?_
      refine v_get (pc := 19) C (27, gi) (v := .ref (A (29, gi))) (ck_27 (g := g) hg) rfl 7 (by decide) inX3 wd_551 rfl rfl dX3_latestKnownTo_19 ?_
      refine v_alen (pc := 22) C (29, gi) (v := 6) (ck_29 (g := g) hg) rfl (by decide) dX3_latestKnownTo_22 ?_
      refine v_icmp_ge (pc := 23) (tgt := 37) C dX3_latestKnownTo_23 (by decide) (fun c_3 => ?_) (fun c_3 => ?_)
      · skip
        refine v_iconst (v := -1) (pc := 37) C dX3_latestKnownTo_37 rfl ?_
        exact v_iret (pc := 38) C (by decide) (by decide) dX3_latestKnownTo_38 ⟨(congrArg (fun q => some (Value.int q)) (by show _ = _; rw [V_X3_latestKnownTo, if_pos c_1, if_neg c_2, if_pos c_3])), rfl, rfl⟩
      · skip
        refine v_aload_n (pc := 26) C dX3_latestKnownTo_26 0 rfl rfl ?_
        refine v_get (pc := 27) C (27, gi) (v := .ref (A (29, gi))) (ck_27 (g := g) hg) rfl 7 (by decide) inX3 wd_551 rfl rfl dX3_latestKnownTo_27 ?_
        refine v_iload_n (pc := 30) C dX3_latestKnownTo_30 1 rfl rfl ?_
        refine v_iald (pc := 31) C (29, gi) (v := (g 47 gi (u).toNatClampNeg)) (ck_29 (g := g) hg) (by (try simp only [Int32.le_iff_toInt_le, Int32.lt_iff_toInt_lt, ← Int32.toInt_inj, vp_in_iff, Int32.reduceToInt] at c_1 c_2 c_3 ⊢) <;> omega) rfl dX3_latestKnownTo_31 ?_
        refine v_iconst (v := 1) (pc := 32) C dX3_latestKnownTo_32 rfl ?_
        refine v_isub (pc := 33) C dX3_latestKnownTo_33 ?_
        refine v_goto (tgt := 38) (pc := 34) C dX3_latestKnownTo_34 (by decide) ?_
        exact v_iret (pc := 38) C (by decide) (by decide) dX3_latestKnownTo_38 ⟨(congrArg (fun q => some (Value.int q)) (by show _ = _; rw [V_X3_latestKnownTo, if_pos c_1, if_neg c_2, if_neg c_3])), rfl, rfl⟩
  · skip
    refine v_aload_n (pc := 8) C dX3_latestKnownTo_8 0 rfl rfl ?_
    refine v_get (pc := 9) C (27, gi) (v := .int ((g 42 gi 0))) (ck_27 (g := g) hg) rfl 4 (by decide) inX3 wd_546 rfl rfl dX3_latestKnownTo_9 ?_
    exact v_iret (pc := 12) C (by decide) (by decide) dX3_latestKnownTo_12 ⟨(congrArg (fun q => some (Value.int q)) (by show _ = _; rw [V_X3_latestKnownTo, if_neg c_1])), rfl, rfl⟩
def V_X3_tokenOf (g : vS) (gi : Nat) (e : Int32) (wd : Int32) : Int32 := pMix (pMix ((g 46 gi 0)) (e)) (wd)
set_option maxHeartbeats 4000000 in
set_option maxRecDepth 100000 in
theorem c_X3_tokenOf {G : vG} (hG : G.1.stackTraces = false) {A : vN → Nat} {g : vS} {r : vH} (gi : Nat) (e : Int32) (wd : Int32) (hg : g 104 gi 0 ≠ 0) : vCt G yX3_tokenOf cX3_tokenOf 3 (some .int) 2 [.ref (A (27, gi)), .int (e), .int (wd)] A (w g r) (fun v A2 h2 => v = some (.int (V_X3_tokenOf g gi e wd)) ∧ A2 = A ∧ h2 = w g r) (vNoX) 0 0 := by
  refine v_of hG (by decide +kernel) (Nat.le_of_ble_eq_true rfl) (lv := [(0, .ref (A (27, gi))), (1, .int (e)), (2, .int (wd))]) rfl (fun X C hnx => ?_)
  have C : vC G X cX3_tokenOf 3 RX3 (some .int) "tokenOf" 2 0 0 := C
  refine v_aload_n (pc := 0) C dX3_tokenOf_0 0 rfl rfl ?_
  refine v_get (pc := 1) C (27, gi) (v := .int ((g 46 gi 0))) (ck_27 (g := g) hg) rfl 3 (by decide) inX3 wd_544 rfl rfl dX3_tokenOf_1 ?_
  refine v_iload_n (pc := 4) C dX3_tokenOf_4 1 rfl rfl ?_
  refine v_callS (pc := 5) C (c_X0_mix hG ((g 46 gi 0)) (e)) 2 wd_313 wd_78 wd_537 wd_312 (by decide +kernel) (by decide) (by decide) rfl ([]) rfl (Nat.le_of_ble_eq_true rfl) (by decide) dX3_tokenOf_5 (fun _ _ _ q => q.elim) (fun v9 A9 h9 hR9 => ?_)
  obtain ⟨rfl, hA9, rfl⟩ := hR9
  obtain rfl := hA9.symm
  refine v_st (k2 := 0) (n2 := 0) (st2 := [.int (pMix ((g 46 gi 0)) (e))]) rfl rfl rfl ?_
  refine v_iload_n (pc := 8) C dX3_tokenOf_8 2 rfl rfl ?_
  refine v_callS (pc := 9) C (c_X0_mix hG (pMix ((g 46 gi 0)) (e)) (wd)) 2 wd_313 wd_78 wd_537 wd_312 (by decide +kernel) (by decide) (by decide) rfl ([]) rfl (Nat.le_of_ble_eq_true rfl) (by decide) dX3_tokenOf_9 (fun _ _ _ q => q.elim) (fun v9 A9 h9 hR9 => ?_)
  obtain ⟨rfl, hA9, rfl⟩ := hR9
  obtain rfl := hA9.symm
  refine v_st (k2 := 0) (n2 := 0) (st2 := [.int (pMix (pMix ((g 46 gi 0)) (e)) (wd))]) rfl rfl rfl ?_
  exact v_iret (pc := 12) C (by decide) (by decide) dX3_tokenOf_12 ⟨(congrArg (fun q => some (Value.int q)) (by show _ = _; rw [V_X3_tokenOf])), rfl, rfl⟩
def V_X5_count (g : vS)  : Int32 := (g 4 0 0)
set_option maxHeartbeats 4000000 in
set_option maxRecDepth 100000 in
theorem c_X5_count {G : vG} (hG : G.1.stackTraces = false) {A : vN → Nat} {g : vS} {r : vH}   : vCt G yX5_count cX5_count 1 (some .int) 0 [.ref (A (4, 0))] A (w g r) (fun v A2 h2 => v = some (.int (V_X5_count g)) ∧ A2 = A ∧ h2 = w g r) (vNoX) 0 0 := by
  refine v_of hG (by decide +kernel) (Nat.le_of_ble_eq_true rfl) (lv := [(0, .ref (A (4, 0)))]) rfl (fun X C hnx => ?_)
  have C : vC G X cX5_count 1 RX5 (some .int) "count" 0 0 0 := C
  refine v_aload_n (pc := 0) C dX5_count_0 0 rfl rfl ?_
  refine v_get (pc := 1) C (4, 0) (v := .int ((g 4 0 0))) ck_4 rfl 2 (by decide) inX5 wd_112 rfl rfl dX5_count_1 ?_
  exact v_iret (pc := 4) C (by decide) (by decide) dX5_count_4 ⟨(congrArg (fun q => some (Value.int q)) (by show _ = _; rw [V_X5_count])), rfl, rfl⟩
def V_X5_isFull (g : vS)  : Int32 := (if (g 4 0 0) < 300 then 0 else 1)
theorem B_X5_isFull {g : vS}  : V_X5_isFull g = 0 ∨ V_X5_isFull g = 1 := by
  unfold V_X5_isFull
  (repeat' split) <;> first | exact Or.inl rfl | exact Or.inr rfl
set_option maxHeartbeats 4000000 in
set_option maxRecDepth 100000 in
theorem c_X5_isFull {G : vG} (hG : G.1.stackTraces = false) {A : vN → Nat} {g : vS} {r : vH}   : vCt G yX5_isFull cX5_isFull 1 (some .boolean) 0 [.ref (A (4, 0))] A (w g r) (fun v A2 h2 => v = some (.int (V_X5_isFull g)) ∧ A2 = A ∧ h2 = w g r) (vNoX) 0 0 := by
  refine v_of hG (by decide +kernel) (Nat.le_of_ble_eq_true rfl) (lv := [(0, .ref (A (4, 0)))]) rfl (fun X C hnx => ?_)
  have C : vC G X cX5_isFull 1 RX5 (some .boolean) "isFull" 0 0 0 := C
  refine v_aload_n (pc := 0) C dX5_isFull_0 0 rfl rfl ?_
  refine v_get (pc := 1) C (4, 0) (v := .int ((g 4 0 0))) ck_4 rfl 2 (by decide) inX5 wd_112 rfl rfl dX5_isFull_1 ?_
  refine v_sipush (v := 300) (pc := 4) C dX5_isFull_4 (by decide) ?_
  refine v_icmp_lt (pc := 7) (tgt := 14) C dX5_isFull_7 (by decide) (fun c_1 => ?_) (fun c_1 => ?_)
  · skip
    refine v_iconst (v := 0) (pc := 14) C dX5_isFull_14 rfl ?_
    exact v_zret (pc := 15) C rfl (by decide) (by decide) dX5_isFull_15 ⟨(congrArg (fun q => some (Value.int q)) (by show _ = _; rw [V_X5_isFull, if_pos c_1])), rfl, rfl⟩
  · skip
    refine v_iconst (v := 1) (pc := 10) C dX5_isFull_10 rfl ?_
    refine v_goto (tgt := 15) (pc := 11) C dX5_isFull_11 (by decide) ?_
    exact v_zret (pc := 15) C rfl (by decide) (by decide) dX5_isFull_15 ⟨(congrArg (fun q => some (Value.int q)) (by show _ = _; rw [V_X5_isFull, if_neg c_1])), rfl, rfl⟩
def S_X5_append (g : vS) (x : Int32) : vS := (if (g 4 0 0) < 0 then g else (if 300 ≤ (g 4 0 0) then g else (s3 (s3 g 80 ((g 4 0 0)).toNatClampNeg 0 (x)) 4 0 0 (((g 4 0 0) + 1)))))
theorem F_X5_append {g : vS} {x : Int32} {c i j : Nat} (h4 : c ≠ 4) (h80 : c ≠ 80) : S_X5_append g x c i j = g c i j := by
  unfold S_X5_append
  (repeat' split) <;> first | rfl | ((simp only [s3_k h4, s3_k h80]) <;> first | done | rfl)
set_option maxHeartbeats 4000000 in
set_option maxRecDepth 100000 in
theorem c_X5_append {G : vG} (hG : G.1.stackTraces = false) {A : vN → Nat} {g : vS} {r : vH} (x : Int32)  : vCt G yX5_append cX5_append 2 none 0 [.ref (A (4, 0)), .int (x)] A (w g r) (fun v A2 h2 => v = none ∧ A2 = A ∧ h2 = w (S_X5_append g x) r) (vNoX) 0 0 := by
  refine v_of hG (by decide +kernel) (Nat.le_of_ble_eq_true rfl) (lv := [(0, .ref (A (4, 0))), (1, .int (x))]) rfl (fun X C hnx => ?_)
  have C : vC G X cX5_append 2 RX5 none "append" 0 0 0 := C
  refine v_aload_n (pc := 0) C dX5_append_0 0 rfl rfl ?_
  refine v_get (pc := 1) C (4, 0) (v := .int ((g 4 0 0))) ck_4 rfl 2 (by decide) inX5 wd_112 rfl rfl dX5_append_1 ?_
  refine v_if_lt (pc := 4) (tgt := 39) C dX5_append_4 (by decide) (fun c_1 => ?_) (fun c_1 => ?_)
  · skip
    exact v_vret (pc := 39) C (by decide) (by decide) dX5_append_39 ⟨rfl, rfl, (congrArg (fun q => w q r) (by show _ = _; rw [S_X5_append, if_pos c_1]))⟩
  · skip
    refine v_aload_n (pc := 7) C dX5_append_7 0 rfl rfl ?_
    refine v_get (pc := 8) C (4, 0) (v := .int ((g 4 0 0))) ck_4 rfl 2 (by decide) inX5 wd_112 rfl rfl dX5_append_8 ?_
    refine v_aload_n (pc := 11) C dX5_append_11 0 rfl rfl ?_
    refine v_get (pc := 12) C (4, 0) (v := .ref (A (5, 0))) ck_4 rfl 0 (by decide) inX5 wd_110 rfl rfl dX5_append_12 ?_
    refine v_alen (pc := 15) C (5, 0) (v := 300) ck_5 rfl (by decide) dX5_append_15 ?_
    refine v_icmp_ge (pc := 16) (tgt := 39) C dX5_append_16 (by decide) (fun c_2 => ?_) (fun c_2 => ?_)
    · skip
      exact v_vret (pc := 39) C (by decide) (by decide) dX5_append_39 ⟨rfl, rfl, (congrArg (fun q => w q r) (by show _ = _; rw [S_X5_append, if_neg c_1, if_pos c_2]))⟩
    · skip
      refine v_aload_n (pc := 19) C dX5_append_19 0 rfl rfl ?_
      refine v_get (pc := 20) C (4, 0) (v := .ref (A (5, 0))) ck_4 rfl 0 (by decide) inX5 wd_110 rfl rfl dX5_append_20 ?_
      refine v_aload_n (pc := 23) C dX5_append_23 0 rfl rfl ?_
      refine v_get (pc := 24) C (4, 0) (v := .int ((g 4 0 0))) ck_4 rfl 2 (by decide) inX5 wd_112 rfl rfl dX5_append_24 ?_
      refine v_iload_n (pc := 27) C dX5_append_27 1 rfl rfl ?_
      refine v_iast (pc := 28) C (5, 0) (x := x) ck_5 (by (try simp only [Int32.le_iff_toInt_le, Int32.lt_iff_toInt_lt, ← Int32.toInt_inj, vp_in_iff, Int32.reduceToInt] at c_1 c_2 ⊢) <;> omega) dX5_append_28 ?_
      refine v_h (h2 := (w (s3 g 80 ((g 4 0 0)).toNatClampNeg 0 (x)) r)) (u_5_a) ?_
      refine v_aload_n (pc := 29) C dX5_append_29 0 rfl rfl ?_
      refine v_dup (pc := 30) C dX5_append_30 rfl ?_
      refine v_get (pc := 31) C (4, 0) (v := .int ((g 4 0 0))) ck_4 rfl 2 (by decide) inX5 wd_112 rfl rfl dX5_append_31 ?_
      refine v_iconst (v := 1) (pc := 34) C dX5_append_34 rfl ?_
      refine v_iadd (pc := 35) C dX5_append_35 ?_
      refine v_put (pc := 36) C (4, 0) (v := .int (((g 4 0 0) + 1))) ck_4 rfl 2 (by decide) inX5 tyX5 tyX5_ok nmX5 wd_112 rfl (.inl (Value.int (((g 4 0 0) + 1)))) rfl (ty := tyX5 2) (by decide +kernel) rfl rfl (Nat.le_of_ble_eq_true rfl) dX5_append_36 ?_
      refine v_h (h2 := (w (s3 (s3 g 80 ((g 4 0 0)).toNatClampNeg 0 (x)) 4 0 0 (((g 4 0 0) + 1))) r)) (u_4_2) ?_
      exact v_vret (pc := 39) C (by decide) (by decide) dX5_append_39 ⟨rfl, rfl, (congrArg (fun q => w q r) (by show _ = _; rw [S_X5_append, if_neg c_1, if_neg c_2]))⟩
def V_X5_leafAt (g : vS) (x : Int32) : Int32 := (if x < 0 then 0 else (if 300 ≤ x then 0 else (g 80 (x).toNatClampNeg 0)))
set_option maxHeartbeats 4000000 in
set_option maxRecDepth 100000 in
theorem c_X5_leafAt {G : vG} (hG : G.1.stackTraces = false) {A : vN → Nat} {g : vS} {r : vH} (x : Int32)  : vCt G yX5_leafAt cX5_leafAt 2 (some .int) 0 [.ref (A (4, 0)), .int (x)] A (w g r) (fun v A2 h2 => v = some (.int (V_X5_leafAt g x)) ∧ A2 = A ∧ h2 = w g r) (vNoX) 0 0 := by
  refine v_of hG (by decide +kernel) (Nat.le_of_ble_eq_true rfl) (lv := [(0, .ref (A (4, 0))), (1, .int (x))]) rfl (fun X C hnx => ?_)
  have C : vC G X cX5_leafAt 2 RX5 (some .int) "leafAt" 0 0 0 := C
  refine v_iload_n (pc := 0) C dX5_leafAt_0 1 rfl rfl ?_
  refine v_if_lt (pc := 1) (tgt := 22) C dX5_leafAt_1 (by decide) (fun c_1 => ?_) (fun c_1 => ?_)
  · skip
    refine v_iconst (v := 0) (pc := 22) C dX5_leafAt_22 rfl ?_
    exact v_iret (pc := 23) C (by decide) (by decide) dX5_leafAt_23 ⟨(congrArg (fun q => some (Value.int q)) (by show _ = _; rw [V_X5_leafAt, if_pos c_1])), rfl, rfl⟩
  · skip
    refine v_iload_n (pc := 4) C dX5_leafAt_4 1 rfl rfl ?_
    refine v_aload_n (pc := 5) C dX5_leafAt_5 0 rfl rfl ?_
    refine v_get (pc := 6) C (4, 0) (v := .ref (A (5, 0))) ck_4 rfl 0 (by decide) inX5 wd_110 rfl rfl dX5_leafAt_6 ?_
    refine v_alen (pc := 9) C (5, 0) (v := 300) ck_5 rfl (by decide) dX5_leafAt_9 ?_
    refine v_icmp_ge (pc := 10) (tgt := 22) C dX5_leafAt_10 (by decide) (fun c_2 => ?_) (fun c_2 => ?_)
    · skip
      refine v_iconst (v := 0) (pc := 22) C dX5_leafAt_22 rfl ?_
      exact v_iret (pc := 23) C (by decide) (by decide) dX5_leafAt_23 ⟨(congrArg (fun q => some (Value.int q)) (by show _ = _; rw [V_X5_leafAt, if_neg c_1, if_pos c_2])), rfl, rfl⟩
    · skip
      refine v_aload_n (pc := 13) C dX5_leafAt_13 0 rfl rfl ?_
      refine v_get (pc := 14) C (4, 0) (v := .ref (A (5, 0))) ck_4 rfl 0 (by decide) inX5 wd_110 rfl rfl dX5_leafAt_14 ?_
      refine v_iload_n (pc := 17) C dX5_leafAt_17 1 rfl rfl ?_
      refine v_iald (pc := 18) C (5, 0) (v := (g 80 (x).toNatClampNeg 0)) ck_5 (by (try simp only [Int32.le_iff_toInt_le, Int32.lt_iff_toInt_lt, ← Int32.toInt_inj, vp_in_iff, Int32.reduceToInt] at c_1 c_2 ⊢) <;> omega) rfl dX5_leafAt_18 ?_
      refine v_goto (tgt := 23) (pc := 19) C dX5_leafAt_19 (by decide) ?_
      exact v_iret (pc := 23) C (by decide) (by decide) dX5_leafAt_23 ⟨(congrArg (fun q => some (Value.int q)) (by show _ = _; rw [V_X5_leafAt, if_neg c_1, if_neg c_2])), rfl, rfl⟩
def V_X5_cutTo (g : vS) (x : Int32) : Int32 := ((g 4 0 0) - x)
def S_X5_cutTo (g : vS) (x : Int32) : vS := (s3 g 4 0 0 (x))
theorem F_X5_cutTo {g : vS} {x : Int32} {c i j : Nat} (h4 : c ≠ 4) : S_X5_cutTo g x c i j = g c i j := by
  unfold S_X5_cutTo
  (repeat' split) <;> first | rfl | ((simp only [s3_k h4]) <;> first | done | rfl)
set_option maxHeartbeats 4000000 in
set_option maxRecDepth 100000 in
theorem c_X5_cutTo {G : vG} (hG : G.1.stackTraces = false) {A : vN → Nat} {g : vS} {r : vH} (x : Int32)  : vCt G yX5_cutTo cX5_cutTo 3 (some .int) 0 [.ref (A (4, 0)), .int (x)] A (w g r) (fun v A2 h2 => v = some (.int (V_X5_cutTo g x)) ∧ A2 = A ∧ h2 = w (S_X5_cutTo g x) r) (vNoX) 0 0 := by
  refine v_of hG (by decide +kernel) (Nat.le_of_ble_eq_true rfl) (lv := [(0, .ref (A (4, 0))), (1, .int (x))]) rfl (fun X C hnx => ?_)
  have C : vC G X cX5_cutTo 3 RX5 (some .int) "cutTo" 0 0 0 := C
  refine v_aload_n (pc := 0) C dX5_cutTo_0 0 rfl rfl ?_
  refine v_get (pc := 1) C (4, 0) (v := .int ((g 4 0 0))) ck_4 rfl 2 (by decide) inX5 wd_112 rfl rfl dX5_cutTo_1 ?_
  refine v_iload_n (pc := 4) C dX5_cutTo_4 1 rfl rfl ?_
  refine v_isub (pc := 5) C dX5_cutTo_5 ?_
  refine v_istore_n (lv2 := [(2, .int (((g 4 0 0) - x))), (0, .ref (A (4, 0))), (1, .int (x))]) (pc := 6) C dX5_cutTo_6 rfl (by decide) rfl ?_
  refine v_aload_n (pc := 7) C dX5_cutTo_7 1 rfl rfl ?_
  refine v_iload_n (pc := 8) C dX5_cutTo_8 2 rfl rfl ?_
  refine v_put (pc := 9) C (4, 0) (v := .int (x)) ck_4 rfl 2 (by decide) inX5 tyX5 tyX5_ok nmX5 wd_112 rfl (.inl (Value.int (x))) rfl (ty := tyX5 2) (by decide +kernel) rfl rfl (Nat.le_of_ble_eq_true rfl) dX5_cutTo_9 ?_
  refine v_h (h2 := (w (s3 g 4 0 0 (x)) r)) (u_4_2) ?_
  refine v_iload_n (pc := 12) C dX5_cutTo_12 0 rfl rfl ?_
  exact v_iret (pc := 13) C (by decide) (by decide) dX5_cutTo_13 ⟨(congrArg (fun q => some (Value.int q)) (by show _ = _; rw [V_X5_cutTo])), rfl, (congrArg (fun q => w q r) (by show _ = _; rw [S_X5_cutTo]))⟩
def V_X5_rowAt (g : vS) (x : Int32) : Int32 := (if (((g 15 0 0) - 1) - x) < 0 then 0 else (if 13 ≤ (((g 15 0 0) - 1) - x) then 0 else (g 81 ((((g 15 0 0) - 1) - x)).toNatClampNeg 0)))
set_option maxHeartbeats 4000000 in
set_option maxRecDepth 100000 in
theorem c_X5_rowAt {G : vG} (hG : G.1.stackTraces = false) {A : vN → Nat} {g : vS} {r : vH} (x : Int32)  : vCt G yX5_rowAt cX5_rowAt 3 (some .int) 0 [.ref (A (4, 0)), .int (x)] A (w g r) (fun v A2 h2 => v = some (.int (V_X5_rowAt g x)) ∧ A2 = A ∧ h2 = w g r) (vNoX) 0 0 := by
  refine v_of hG (by decide +kernel) (Nat.le_of_ble_eq_true rfl) (lv := [(0, .ref (A (4, 0))), (1, .int (x))]) rfl (fun X C hnx => ?_)
  have C : vC G X cX5_rowAt 3 RX5 (some .int) "rowAt" 0 0 0 := C
  refine v_aload_n (pc := 0) C dX5_rowAt_0 0 rfl rfl ?_
  refine v_get (pc := 1) C (4, 0) (v := .int ((g 15 0 0))) ck_4 rfl 3 (by decide) inX5 wd_113 rfl rfl dX5_rowAt_1 ?_
  refine v_iconst (v := 1) (pc := 4) C dX5_rowAt_4 rfl ?_
  refine v_isub (pc := 5) C dX5_rowAt_5 ?_
  refine v_iload_n (pc := 6) C dX5_rowAt_6 1 rfl rfl ?_
  refine v_isub (pc := 7) C dX5_rowAt_7 ?_
  refine v_istore_n (lv2 := [(2, .int ((((g 15 0 0) - 1) - x))), (0, .ref (A (4, 0))), (1, .int (x))]) (pc := 8) C dX5_rowAt_8 rfl (by decide) rfl ?_
  refine v_iload_n (pc := 9) C dX5_rowAt_9 0 rfl rfl ?_
  refine v_if_lt (pc := 10) (tgt := 31) C dX5_rowAt_10 (by decide) (fun c_1 => ?_) (fun c_1 => ?_)
  · skip
    refine v_iconst (v := 0) (pc := 31) C dX5_rowAt_31 rfl ?_
    exact v_iret (pc := 32) C (by decide) (by decide) dX5_rowAt_32 ⟨(congrArg (fun q => some (Value.int q)) (by show _ = _; rw [V_X5_rowAt, if_pos c_1])), rfl, rfl⟩
  · skip
    refine v_iload_n (pc := 13) C dX5_rowAt_13 0 rfl rfl ?_
    refine v_aload_n (pc := 14) C dX5_rowAt_14 1 rfl rfl ?_
    refine v_get (pc := 15) C (4, 0) (v := .ref (A (6, 0))) ck_4 rfl 1 (by decide) inX5 wd_111 rfl rfl dX5_rowAt_15 ?_
    refine v_alen (pc := 18) C (6, 0) (v := 13) ck_6 rfl (by decide) dX5_rowAt_18 ?_
    refine v_icmp_ge (pc := 19) (tgt := 31) C dX5_rowAt_19 (by decide) (fun c_2 => ?_) (fun c_2 => ?_)
    · skip
      refine v_iconst (v := 0) (pc := 31) C dX5_rowAt_31 rfl ?_
      exact v_iret (pc := 32) C (by decide) (by decide) dX5_rowAt_32 ⟨(congrArg (fun q => some (Value.int q)) (by show _ = _; rw [V_X5_rowAt, if_neg c_1, if_pos c_2])), rfl, rfl⟩
    · skip
      refine v_aload_n (pc := 22) C dX5_rowAt_22 1 rfl rfl ?_
      refine v_get (pc := 23) C (4, 0) (v := .ref (A (6, 0))) ck_4 rfl 1 (by decide) inX5 wd_111 rfl rfl dX5_rowAt_23 ?_
      refine v_iload_n (pc := 26) C dX5_rowAt_26 0 rfl rfl ?_
      refine v_iald (pc := 27) C (6, 0) (v := (g 81 ((((g 15 0 0) - 1) - x)).toNatClampNeg 0)) ck_6 (by (try simp only [Int32.le_iff_toInt_le, Int32.lt_iff_toInt_lt, ← Int32.toInt_inj, vp_in_iff, Int32.reduceToInt] at c_1 c_2 ⊢) <;> omega) rfl dX5_rowAt_27 ?_
      refine v_goto (tgt := 32) (pc := 28) C dX5_rowAt_28 (by decide) ?_
      exact v_iret (pc := 32) C (by decide) (by decide) dX5_rowAt_32 ⟨(congrArg (fun q => some (Value.int q)) (by show _ = _; rw [V_X5_rowAt, if_neg c_1, if_neg c_2])), rfl, rfl⟩
def S_X5_addToRow (g : vS) (x : Int32) : vS := (if (g 15 0 0) < 0 then g else (if 13 ≤ (g 15 0 0) then g else (s3 (s3 g 81 ((g 15 0 0)).toNatClampNeg 0 (x)) 15 0 0 (((g 15 0 0) + 1)))))
theorem F_X5_addToRow {g : vS} {x : Int32} {c i j : Nat} (h15 : c ≠ 15) (h81 : c ≠ 81) : S_X5_addToRow g x c i j = g c i j := by
  unfold S_X5_addToRow
  (repeat' split) <;> first | rfl | ((simp only [s3_k h15, s3_k h81]) <;> first | done | rfl)
set_option maxHeartbeats 4000000 in
set_option maxRecDepth 100000 in
theorem c_X5_addToRow {G : vG} (hG : G.1.stackTraces = false) {A : vN → Nat} {g : vS} {r : vH} (x : Int32)  : vCt G yX5_addToRow cX5_addToRow 2 none 0 [.ref (A (4, 0)), .int (x)] A (w g r) (fun v A2 h2 => v = none ∧ A2 = A ∧ h2 = w (S_X5_addToRow g x) r) (vNoX) 0 0 := by
  refine v_of hG (by decide +kernel) (Nat.le_of_ble_eq_true rfl) (lv := [(0, .ref (A (4, 0))), (1, .int (x))]) rfl (fun X C hnx => ?_)
  have C : vC G X cX5_addToRow 2 RX5 none "addToRow" 0 0 0 := C
  refine v_aload_n (pc := 0) C dX5_addToRow_0 0 rfl rfl ?_
  refine v_get (pc := 1) C (4, 0) (v := .int ((g 15 0 0))) ck_4 rfl 3 (by decide) inX5 wd_113 rfl rfl dX5_addToRow_1 ?_
  refine v_if_lt (pc := 4) (tgt := 39) C dX5_addToRow_4 (by decide) (fun c_1 => ?_) (fun c_1 => ?_)
  · skip
    exact v_vret (pc := 39) C (by decide) (by decide) dX5_addToRow_39 ⟨rfl, rfl, (congrArg (fun q => w q r) (by show _ = _; rw [S_X5_addToRow, if_pos c_1]))⟩
  · skip
    refine v_aload_n (pc := 7) C dX5_addToRow_7 0 rfl rfl ?_
    refine v_get (pc := 8) C (4, 0) (v := .int ((g 15 0 0))) ck_4 rfl 3 (by decide) inX5 wd_113 rfl rfl dX5_addToRow_8 ?_
    refine v_aload_n (pc := 11) C dX5_addToRow_11 0 rfl rfl ?_
    refine v_get (pc := 12) C (4, 0) (v := .ref (A (6, 0))) ck_4 rfl 1 (by decide) inX5 wd_111 rfl rfl dX5_addToRow_12 ?_
    refine v_alen (pc := 15) C (6, 0) (v := 13) ck_6 rfl (by decide) dX5_addToRow_15 ?_
    refine v_icmp_ge (pc := 16) (tgt := 39) C dX5_addToRow_16 (by decide) (fun c_2 => ?_) (fun c_2 => ?_)
    · skip
      exact v_vret (pc := 39) C (by decide) (by decide) dX5_addToRow_39 ⟨rfl, rfl, (congrArg (fun q => w q r) (by show _ = _; rw [S_X5_addToRow, if_neg c_1, if_pos c_2]))⟩
    · skip
      refine v_aload_n (pc := 19) C dX5_addToRow_19 0 rfl rfl ?_
      refine v_get (pc := 20) C (4, 0) (v := .ref (A (6, 0))) ck_4 rfl 1 (by decide) inX5 wd_111 rfl rfl dX5_addToRow_20 ?_
      refine v_aload_n (pc := 23) C dX5_addToRow_23 0 rfl rfl ?_
      refine v_get (pc := 24) C (4, 0) (v := .int ((g 15 0 0))) ck_4 rfl 3 (by decide) inX5 wd_113 rfl rfl dX5_addToRow_24 ?_
      refine v_iload_n (pc := 27) C dX5_addToRow_27 1 rfl rfl ?_
      refine v_iast (pc := 28) C (6, 0) (x := x) ck_6 (by (try simp only [Int32.le_iff_toInt_le, Int32.lt_iff_toInt_lt, ← Int32.toInt_inj, vp_in_iff, Int32.reduceToInt] at c_1 c_2 ⊢) <;> omega) dX5_addToRow_28 ?_
      refine v_h (h2 := (w (s3 g 81 ((g 15 0 0)).toNatClampNeg 0 (x)) r)) (u_6_a) ?_
      refine v_aload_n (pc := 29) C dX5_addToRow_29 0 rfl rfl ?_
      refine v_dup (pc := 30) C dX5_addToRow_30 rfl ?_
      refine v_get (pc := 31) C (4, 0) (v := .int ((g 15 0 0))) ck_4 rfl 3 (by decide) inX5 wd_113 rfl rfl dX5_addToRow_31 ?_
      refine v_iconst (v := 1) (pc := 34) C dX5_addToRow_34 rfl ?_
      refine v_iadd (pc := 35) C dX5_addToRow_35 ?_
      refine v_put (pc := 36) C (4, 0) (v := .int (((g 15 0 0) + 1))) ck_4 rfl 3 (by decide) inX5 tyX5 tyX5_ok nmX5 wd_113 rfl (.inl (Value.int (((g 15 0 0) + 1)))) rfl (ty := tyX5 3) (by decide +kernel) rfl rfl (Nat.le_of_ble_eq_true rfl) dX5_addToRow_36 ?_
      refine v_h (h2 := (w (s3 (s3 g 81 ((g 15 0 0)).toNatClampNeg 0 (x)) 15 0 0 (((g 15 0 0) + 1))) r)) (u_4_3) ?_
      exact v_vret (pc := 39) C (by decide) (by decide) dX5_addToRow_39 ⟨rfl, rfl, (congrArg (fun q => w q r) (by show _ = _; rw [S_X5_addToRow, if_neg c_1, if_neg c_2]))⟩
def V_X1_count (g : vS) (u : Nat) : Int32 := (g 27 u 0)
set_option maxHeartbeats 4000000 in
set_option maxRecDepth 100000 in
theorem c_X1_count {G : vG} (hG : G.1.stackTraces = false) {A : vN → Nat} {g : vS} {r : vH} (u : Nat) (hu : g 103 u 0 ≠ 0) : vCt G yX1_count cX1_count 1 (some .int) 0 [.ref (A (23, u))] A (w g r) (fun v A2 h2 => v = some (.int (V_X1_count g u)) ∧ A2 = A ∧ h2 = w g r) (vNoX) 0 0 := by
  refine v_of hG (by decide +kernel) (Nat.le_of_ble_eq_true rfl) (lv := [(0, .ref (A (23, u)))]) rfl (fun X C hnx => ?_)
  have C : vC G X cX1_count 1 RX1 (some .int) "count" 0 0 0 := C
  refine v_aload_n (pc := 0) C dX1_count_0 0 rfl rfl ?_
  refine v_get (pc := 1) C (23, u) (v := .int ((g 27 u 0))) (ck_23 (g := g) hu) rfl 3 (by decide) inX1 wd_461 rfl rfl dX1_count_1 ?_
  exact v_iret (pc := 4) C (by decide) (by decide) dX1_count_4 ⟨(congrArg (fun q => some (Value.int q)) (by show _ = _; rw [V_X1_count])), rfl, rfl⟩
def V_X1_placeAt (g : vS) (u : Nat) (x : Int32) : Int32 := (if x < 0 then 0 else (if 10 ≤ x then 0 else (g 30 u (x).toNatClampNeg)))
set_option maxHeartbeats 4000000 in
set_option maxRecDepth 100000 in
theorem c_X1_placeAt {G : vG} (hG : G.1.stackTraces = false) {A : vN → Nat} {g : vS} {r : vH} (u : Nat) (x : Int32) (hu : g 103 u 0 ≠ 0) : vCt G yX1_placeAt cX1_placeAt 2 (some .int) 0 [.ref (A (23, u)), .int (x)] A (w g r) (fun v A2 h2 => v = some (.int (V_X1_placeAt g u x)) ∧ A2 = A ∧ h2 = w g r) (vNoX) 0 0 := by
  refine v_of hG (by decide +kernel) (Nat.le_of_ble_eq_true rfl) (lv := [(0, .ref (A (23, u))), (1, .int (x))]) rfl (fun X C hnx => ?_)
  have C : vC G X cX1_placeAt 2 RX1 (some .int) "placeAt" 0 0 0 := C
  refine v_iload_n (pc := 0) C dX1_placeAt_0 1 rfl rfl ?_
  refine v_if_lt (pc := 1) (tgt := 22) C dX1_placeAt_1 (by decide) (fun c_1 => ?_) (fun c_1 => ?_)
  · skip
    refine v_iconst (v := 0) (pc := 22) C dX1_placeAt_22 rfl ?_
    exact v_iret (pc := 23) C (by decide) (by decide) dX1_placeAt_23 ⟨(congrArg (fun q => some (Value.int q)) (by show _ = _; rw [V_X1_placeAt, if_pos c_1])), rfl, rfl⟩
  · skip
    refine v_iload_n (pc := 4) C dX1_placeAt_4 1 rfl rfl ?_
    refine v_aload_n (pc := 5) C dX1_placeAt_5 0 rfl rfl ?_
    refine v_get (pc := 6) C (23, u) (v := .ref (A (24, u))) (ck_23 (g := g) hu) rfl 0 (by decide) inX1 wd_458 rfl rfl dX1_placeAt_6 ?_
    refine v_alen (pc := 9) C (24, u) (v := 10) (ck_24 (g := g) hu) rfl (by decide) dX1_placeAt_9 ?_
    refine v_icmp_ge (pc := 10) (tgt := 22) C dX1_placeAt_10 (by decide) (fun c_2 => ?_) (fun c_2 => ?_)
    · skip
      refine v_iconst (v := 0) (pc := 22) C dX1_placeAt_22 rfl ?_
      exact v_iret (pc := 23) C (by decide) (by decide) dX1_placeAt_23 ⟨(congrArg (fun q => some (Value.int q)) (by show _ = _; rw [V_X1_placeAt, if_neg c_1, if_pos c_2])), rfl, rfl⟩
    · skip
      refine v_aload_n (pc := 13) C dX1_placeAt_13 0 rfl rfl ?_
      refine v_get (pc := 14) C (23, u) (v := .ref (A (24, u))) (ck_23 (g := g) hu) rfl 0 (by decide) inX1 wd_458 rfl rfl dX1_placeAt_14 ?_
      refine v_iload_n (pc := 17) C dX1_placeAt_17 1 rfl rfl ?_
      refine v_iald (pc := 18) C (24, u) (v := (g 30 u (x).toNatClampNeg)) (ck_24 (g := g) hu) (by (try simp only [Int32.le_iff_toInt_le, Int32.lt_iff_toInt_lt, ← Int32.toInt_inj, vp_in_iff, Int32.reduceToInt] at c_1 c_2 ⊢) <;> omega) rfl dX1_placeAt_18 ?_
      refine v_goto (tgt := 23) (pc := 19) C dX1_placeAt_19 (by decide) ?_
      exact v_iret (pc := 23) C (by decide) (by decide) dX1_placeAt_23 ⟨(congrArg (fun q => some (Value.int q)) (by show _ = _; rw [V_X1_placeAt, if_neg c_1, if_neg c_2])), rfl, rfl⟩
def V_X1_valueAt (g : vS) (u : Nat) (x : Int32) : Int32 := (if x < 0 then 0 else (if 10 ≤ x then 0 else (g 31 u (x).toNatClampNeg)))
set_option maxHeartbeats 4000000 in
set_option maxRecDepth 100000 in
theorem c_X1_valueAt {G : vG} (hG : G.1.stackTraces = false) {A : vN → Nat} {g : vS} {r : vH} (u : Nat) (x : Int32) (hu : g 103 u 0 ≠ 0) : vCt G yX1_valueAt cX1_valueAt 2 (some .int) 0 [.ref (A (23, u)), .int (x)] A (w g r) (fun v A2 h2 => v = some (.int (V_X1_valueAt g u x)) ∧ A2 = A ∧ h2 = w g r) (vNoX) 0 0 := by
  refine v_of hG (by decide +kernel) (Nat.le_of_ble_eq_true rfl) (lv := [(0, .ref (A (23, u))), (1, .int (x))]) rfl (fun X C hnx => ?_)
  have C : vC G X cX1_valueAt 2 RX1 (some .int) "valueAt" 0 0 0 := C
  refine v_iload_n (pc := 0) C dX1_valueAt_0 1 rfl rfl ?_
  refine v_if_lt (pc := 1) (tgt := 22) C dX1_valueAt_1 (by decide) (fun c_1 => ?_) (fun c_1 => ?_)
  · skip
    refine v_iconst (v := 0) (pc := 22) C dX1_valueAt_22 rfl ?_
    exact v_iret (pc := 23) C (by decide) (by decide) dX1_valueAt_23 ⟨(congrArg (fun q => some (Value.int q)) (by show _ = _; rw [V_X1_valueAt, if_pos c_1])), rfl, rfl⟩
  · skip
    refine v_iload_n (pc := 4) C dX1_valueAt_4 1 rfl rfl ?_
    refine v_aload_n (pc := 5) C dX1_valueAt_5 0 rfl rfl ?_
    refine v_get (pc := 6) C (23, u) (v := .ref (A (25, u))) (ck_23 (g := g) hu) rfl 1 (by decide) inX1 wd_459 rfl rfl dX1_valueAt_6 ?_
    refine v_alen (pc := 9) C (25, u) (v := 10) (ck_25 (g := g) hu) rfl (by decide) dX1_valueAt_9 ?_
    refine v_icmp_ge (pc := 10) (tgt := 22) C dX1_valueAt_10 (by decide) (fun c_2 => ?_) (fun c_2 => ?_)
    · skip
      refine v_iconst (v := 0) (pc := 22) C dX1_valueAt_22 rfl ?_
      exact v_iret (pc := 23) C (by decide) (by decide) dX1_valueAt_23 ⟨(congrArg (fun q => some (Value.int q)) (by show _ = _; rw [V_X1_valueAt, if_neg c_1, if_pos c_2])), rfl, rfl⟩
    · skip
      refine v_aload_n (pc := 13) C dX1_valueAt_13 0 rfl rfl ?_
      refine v_get (pc := 14) C (23, u) (v := .ref (A (25, u))) (ck_23 (g := g) hu) rfl 1 (by decide) inX1 wd_459 rfl rfl dX1_valueAt_14 ?_
      refine v_iload_n (pc := 17) C dX1_valueAt_17 1 rfl rfl ?_
      refine v_iald (pc := 18) C (25, u) (v := (g 31 u (x).toNatClampNeg)) (ck_25 (g := g) hu) (by (try simp only [Int32.le_iff_toInt_le, Int32.lt_iff_toInt_lt, ← Int32.toInt_inj, vp_in_iff, Int32.reduceToInt] at c_1 c_2 ⊢) <;> omega) rfl dX1_valueAt_18 ?_
      refine v_goto (tgt := 23) (pc := 19) C dX1_valueAt_19 (by decide) ?_
      exact v_iret (pc := 23) C (by decide) (by decide) dX1_valueAt_23 ⟨(congrArg (fun q => some (Value.int q)) (by show _ = _; rw [V_X1_valueAt, if_neg c_1, if_neg c_2])), rfl, rfl⟩
def V_X1_writesAt (g : vS) (u : Nat) (x : Int32) : Int32 := (if x < 0 then 0 else (if 10 ≤ x then 0 else (g 32 u (x).toNatClampNeg)))
set_option maxHeartbeats 4000000 in
set_option maxRecDepth 100000 in
theorem c_X1_writesAt {G : vG} (hG : G.1.stackTraces = false) {A : vN → Nat} {g : vS} {r : vH} (u : Nat) (x : Int32) (hu : g 103 u 0 ≠ 0) : vCt G yX1_writesAt cX1_writesAt 2 (some .int) 0 [.ref (A (23, u)), .int (x)] A (w g r) (fun v A2 h2 => v = some (.int (V_X1_writesAt g u x)) ∧ A2 = A ∧ h2 = w g r) (vNoX) 0 0 := by
  refine v_of hG (by decide +kernel) (Nat.le_of_ble_eq_true rfl) (lv := [(0, .ref (A (23, u))), (1, .int (x))]) rfl (fun X C hnx => ?_)
  have C : vC G X cX1_writesAt 2 RX1 (some .int) "writesAt" 0 0 0 := C
  refine v_iload_n (pc := 0) C dX1_writesAt_0 1 rfl rfl ?_
  refine v_if_lt (pc := 1) (tgt := 22) C dX1_writesAt_1 (by decide) (fun c_1 => ?_) (fun c_1 => ?_)
  · skip
    refine v_iconst (v := 0) (pc := 22) C dX1_writesAt_22 rfl ?_
    exact v_iret (pc := 23) C (by decide) (by decide) dX1_writesAt_23 ⟨(congrArg (fun q => some (Value.int q)) (by show _ = _; rw [V_X1_writesAt, if_pos c_1])), rfl, rfl⟩
  · skip
    refine v_iload_n (pc := 4) C dX1_writesAt_4 1 rfl rfl ?_
    refine v_aload_n (pc := 5) C dX1_writesAt_5 0 rfl rfl ?_
    refine v_get (pc := 6) C (23, u) (v := .ref (A (26, u))) (ck_23 (g := g) hu) rfl 2 (by decide) inX1 wd_460 rfl rfl dX1_writesAt_6 ?_
    refine v_alen (pc := 9) C (26, u) (v := 10) (ck_26 (g := g) hu) rfl (by decide) dX1_writesAt_9 ?_
    refine v_icmp_ge (pc := 10) (tgt := 22) C dX1_writesAt_10 (by decide) (fun c_2 => ?_) (fun c_2 => ?_)
    · skip
      refine v_iconst (v := 0) (pc := 22) C dX1_writesAt_22 rfl ?_
      exact v_iret (pc := 23) C (by decide) (by decide) dX1_writesAt_23 ⟨(congrArg (fun q => some (Value.int q)) (by show _ = _; rw [V_X1_writesAt, if_neg c_1, if_pos c_2])), rfl, rfl⟩
    · skip
      refine v_aload_n (pc := 13) C dX1_writesAt_13 0 rfl rfl ?_
      refine v_get (pc := 14) C (23, u) (v := .ref (A (26, u))) (ck_23 (g := g) hu) rfl 2 (by decide) inX1 wd_460 rfl rfl dX1_writesAt_14 ?_
      refine v_iload_n (pc := 17) C dX1_writesAt_17 1 rfl rfl ?_
      refine v_iald (pc := 18) C (26, u) (v := (g 32 u (x).toNatClampNeg)) (ck_26 (g := g) hu) (by (try simp only [Int32.le_iff_toInt_le, Int32.lt_iff_toInt_lt, ← Int32.toInt_inj, vp_in_iff, Int32.reduceToInt] at c_1 c_2 ⊢) <;> omega) rfl dX1_writesAt_18 ?_
      refine v_goto (tgt := 23) (pc := 19) C dX1_writesAt_19 (by decide) ?_
      exact v_iret (pc := 23) C (by decide) (by decide) dX1_writesAt_23 ⟨(congrArg (fun q => some (Value.int q)) (by show _ = _; rw [V_X1_writesAt, if_neg c_1, if_neg c_2])), rfl, rfl⟩
def S_X1_clear (g : vS) (u : Nat) : vS := (s3 g 27 u 0 (0))
theorem F_X1_clear {g : vS} {u : Nat} {c i j : Nat} (h27 : c ≠ 27) : S_X1_clear g u c i j = g c i j := by
  unfold S_X1_clear
  (repeat' split) <;> first | rfl | ((simp only [s3_k h27]) <;> first | done | rfl)
set_option maxHeartbeats 4000000 in
set_option maxRecDepth 100000 in
theorem c_X1_clear {G : vG} (hG : G.1.stackTraces = false) {A : vN → Nat} {g : vS} {r : vH} (u : Nat) (hu : g 103 u 0 ≠ 0) : vCt G yX1_clear cX1_clear 1 none 0 [.ref (A (23, u))] A (w g r) (fun v A2 h2 => v = none ∧ A2 = A ∧ h2 = w (S_X1_clear g u) r) (vNoX) 0 0 := by
  refine v_of hG (by decide +kernel) (Nat.le_of_ble_eq_true rfl) (lv := [(0, .ref (A (23, u)))]) rfl (fun X C hnx => ?_)
  have C : vC G X cX1_clear 1 RX1 none "clear" 0 0 0 := C
  refine v_aload_n (pc := 0) C dX1_clear_0 0 rfl rfl ?_
  refine v_iconst (v := 0) (pc := 1) C dX1_clear_1 rfl ?_
  refine v_put (pc := 2) C (23, u) (v := .int (0)) (ck_23 (g := g) hu) rfl 3 (by decide) inX1 tyX1 tyX1_ok nmX1 wd_461 rfl (.inl (Value.int (0))) rfl (ty := tyX1 3) (by decide +kernel) rfl rfl (Nat.le_of_ble_eq_true rfl) dX1_clear_2 ?_
  refine v_h (h2 := (w (s3 g 27 u 0 (0)) r)) (u_23_3 (g := g) hu) ?_
  exact v_vret (pc := 5) C (by decide) (by decide) dX1_clear_5 ⟨rfl, rfl, (congrArg (fun q => w q r) (by show _ = _; rw [S_X1_clear]))⟩
def VL_X1_indexOf_2 (g : vS) (u : Nat) (x : Int32) : Nat → Nat → Int32
  | 0, _ => 0
  | n + 1, i_2 => (if (g 27 u 0) ≤ nI i_2 then -1 else (if 10 ≤ nI i_2 then -1 else (if (g 30 u i_2) = x then nI i_2 else (VL_X1_indexOf_2 g u x n (i_2 + 1)))))
def V_X1_indexOf (g : vS) (u : Nat) (x : Int32) : Int32 := (VL_X1_indexOf_2 g u x (10 + 1) 0)
set_option maxHeartbeats 4000000 in
set_option maxRecDepth 100000 in
theorem c_X1_indexOf {G : vG} (hG : G.1.stackTraces = false) {A : vN → Nat} {g : vS} {r : vH} (u : Nat) (x : Int32) (hu : g 103 u 0 ≠ 0) : vCt G yX1_indexOf cX1_indexOf 3 (some .int) 0 [.ref (A (23, u)), .int (x)] A (w g r) (fun v A2 h2 => v = some (.int (V_X1_indexOf g u x)) ∧ A2 = A ∧ h2 = w g r) (vNoX) 0 0 := by
  refine v_of hG (by decide +kernel) (Nat.le_of_ble_eq_true rfl) (lv := [(0, .ref (A (23, u))), (1, .int (x))]) rfl (fun X C hnx => ?_)
  have C : vC G X cX1_indexOf 3 RX1 (some .int) "indexOf" 0 0 0 := C
  refine v_iconst (v := 0) (pc := 0) C dX1_indexOf_0 rfl ?_
  refine v_istore_n (lv2 := [(2, .int (0)), (0, .ref (A (23, u))), (1, .int (x))]) (pc := 1) C dX1_indexOf_1 rfl (by decide) rfl ?_
  have L_2 : ∀ (n : Nat) (i_2 : Nat), i_2 ≤ 10 → 10 + 1 ≤ i_2 + n → (V_X1_indexOf g u x) = VL_X1_indexOf_2 g u x n i_2 → V G 3 X A (w g r) 0 0 (vM G X (fun v A2 h2 => v = some (.int (V_X1_indexOf g u x)) ∧ A2 = A ∧ h2 = w g r) (vNoX) 0 0) 2 [(2, .int (nI i_2)), (0, .ref (A (23, u))), (1, .int (x))] [] := by
    intro n
    induction n with
    | zero => intro i_2 hi_2 hc_2 eV_2; exact absurd hc_2 (by omega)
    | succ n ih =>
      intro i_2 hi_2 hc_2 eV_2
      have hq_2 : (nI i_2).toInt = (i_2 : Int) := nI_toInt (by omega)
      have hr_2 : (nI (i_2 + 1)).toInt = ((i_2 + 1 : Nat) : Int) := nI_toInt (by omega)
      refine v_iload_n (pc := 2) C dX1_indexOf_2 0 rfl rfl ?_
      refine v_aload_n (pc := 3) C dX1_indexOf_3 1 rfl rfl ?_
      refine v_get (pc := 4) C (23, u) (v := .int ((g 27 u 0))) (ck_23 (g := g) hu) rfl 3 (by decide) inX1 wd_461 rfl rfl dX1_indexOf_4 ?_
      refine v_icmp_ge (pc := 7) (tgt := 37) C dX1_indexOf_7 (by decide) (fun c_1 => ?_) (fun c_1 => ?_)
      · skip
        refine v_iconst (v := -1) (pc := 37) C dX1_indexOf_37 rfl ?_
        exact v_iret (pc := 38) C (by decide) (by decide) dX1_indexOf_38 ⟨(congrArg (fun q => some (Value.int q)) (by show _ = _; rw [eV_2, VL_X1_indexOf_2, if_pos c_1])), rfl, rfl⟩
      · skip
        refine v_iload_n (pc := 10) C dX1_indexOf_10 0 rfl rfl ?_
        refine v_aload_n (pc := 11) C dX1_indexOf_11 1 rfl rfl ?_
        refine v_get (pc := 12) C (23, u) (v := .ref (A (24, u))) (ck_23 (g := g) hu) rfl 0 (by decide) inX1 wd_458 rfl rfl dX1_indexOf_12 ?_
        refine v_alen (pc := 15) C (24, u) (v := 10) (ck_24 (g := g) hu) rfl (by decide) dX1_indexOf_15 ?_
        refine v_icmp_ge (pc := 16) (tgt := 37) C dX1_indexOf_16 (by decide) (fun c_2 => ?_) (fun c_2 => ?_)
        · skip
          refine v_iconst (v := -1) (pc := 37) C dX1_indexOf_37 rfl ?_
          exact v_iret (pc := 38) C (by decide) (by decide) dX1_indexOf_38 ⟨(congrArg (fun q => some (Value.int q)) (by show _ = _; rw [eV_2, VL_X1_indexOf_2, if_neg c_1, if_pos c_2])), rfl, rfl⟩
        · skip
          refine v_aload_n (pc := 19) C dX1_indexOf_19 1 rfl rfl ?_
          refine v_get (pc := 20) C (23, u) (v := .ref (A (24, u))) (ck_23 (g := g) hu) rfl 0 (by decide) inX1 wd_458 rfl rfl dX1_indexOf_20 ?_
          refine v_iload_n (pc := 23) C dX1_indexOf_23 0 rfl rfl ?_
          refine v_iald (pc := 24) C (24, u) (v := (g 30 u i_2)) (ck_24 (g := g) hu) (by (try simp only [Int32.le_iff_toInt_le, Int32.lt_iff_toInt_lt, ← Int32.toInt_inj, vp_in_iff, Int32.reduceToInt] at c_1 c_2 hq_2 hr_2 ⊢) <;> omega) ((congrArg (fun k => g 30 u k) (show (nI i_2 : Int32).toNatClampNeg = i_2 from (nI_clamp (by omega)))).trans rfl) dX1_indexOf_24 ?_
          refine v_iload_n (pc := 25) C dX1_indexOf_25 2 rfl rfl ?_
          refine v_icmp_ne (pc := 26) (tgt := 31) C dX1_indexOf_26 (by decide) (fun c_3 => ?_) (fun c_3 => ?_)
          · skip
            refine v_iinc (v := nI (i_2 + 1)) (lv2 := [(2, .int (nI (i_2 + 1))), (0, .ref (A (23, u))), (1, .int (x))]) (pc := 31) C dX1_indexOf_31 0 rfl (nI_1 _) (by decide) rfl ?_
            refine v_goto (tgt := 2) (pc := 34) C dX1_indexOf_34 (by decide) ?_
            refine v_lv (lv2 := [(2, .int (nI (i_2 + 1))), (0, .ref (A (23, u))), (1, .int (x))]) [0, 1, 2] rfl ?_
            exact ih (i_2 + 1) (by (try simp only [Int32.le_iff_toInt_le, Int32.lt_iff_toInt_lt, ← Int32.toInt_inj, vp_in_iff, Int32.reduceToInt] at c_1 c_2 c_3 hq_2 hr_2 ⊢) <;> omega) (by omega)  (by rw [eV_2, VL_X1_indexOf_2, if_neg c_1, if_neg c_2, if_neg c_3])
          · skip
            refine v_iload_n (pc := 29) C dX1_indexOf_29 0 rfl rfl ?_
            exact v_iret (pc := 30) C (by decide) (by decide) dX1_indexOf_30 ⟨(congrArg (fun q => some (Value.int q)) (by show _ = _; rw [eV_2, VL_X1_indexOf_2, if_neg c_1, if_neg c_2, if_pos c_3])), rfl, rfl⟩
  exact L_2 (10 + 1) 0 (by omega) (by omega)  (by rw [V_X1_indexOf])
def S_X1_takeNext (g : vS) (u : Nat) (x : Int32) : vS := (if x < 0 then g else (if 9 ≤ x then g else (s3 (s3 (s3 g 30 u (x).toNatClampNeg ((g 30 u ((x + 1)).toNatClampNeg))) 31 u (x).toNatClampNeg ((g 31 u ((x + 1)).toNatClampNeg))) 32 u (x).toNatClampNeg ((g 32 u ((x + 1)).toNatClampNeg)))))
theorem F_X1_takeNext {g : vS} {u : Nat} {x : Int32} {c i j : Nat} (h30 : c ≠ 30) (h31 : c ≠ 31) (h32 : c ≠ 32) : S_X1_takeNext g u x c i j = g c i j := by
  unfold S_X1_takeNext
  (repeat' split) <;> first | rfl | ((simp only [s3_k h30, s3_k h31, s3_k h32]) <;> first | done | rfl)
set_option maxHeartbeats 4000000 in
set_option maxRecDepth 100000 in
theorem c_X1_takeNext {G : vG} (hG : G.1.stackTraces = false) {A : vN → Nat} {g : vS} {r : vH} (u : Nat) (x : Int32) (hu : g 103 u 0 ≠ 0) : vCt G yX1_takeNext cX1_takeNext 2 none 0 [.ref (A (23, u)), .int (x)] A (w g r) (fun v A2 h2 => v = none ∧ A2 = A ∧ h2 = w (S_X1_takeNext g u x) r) (vNoX) 0 0 := by
  refine v_of hG (by decide +kernel) (Nat.le_of_ble_eq_true rfl) (lv := [(0, .ref (A (23, u))), (1, .int (x))]) rfl (fun X C hnx => ?_)
  have C : vC G X cX1_takeNext 2 RX1 none "takeNext" 0 0 0 := C
  refine v_iload_n (pc := 0) C dX1_takeNext_0 1 rfl rfl ?_
  refine v_if_lt (pc := 1) (tgt := 79) C dX1_takeNext_1 (by decide) (fun c_1 => ?_) (fun c_1 => ?_)
  · skip
    exact v_vret (pc := 79) C (by decide) (by decide) dX1_takeNext_79 ⟨rfl, rfl, (congrArg (fun q => w q r) (by show _ = _; rw [S_X1_takeNext, if_pos c_1]))⟩
  · skip
    refine v_iload_n (pc := 4) C dX1_takeNext_4 1 rfl rfl ?_
    refine v_aload_n (pc := 5) C dX1_takeNext_5 0 rfl rfl ?_
    refine v_get (pc := 6) C (23, u) (v := .ref (A (24, u))) (ck_23 (g := g) hu) rfl 0 (by decide) inX1 wd_458 rfl rfl dX1_takeNext_6 ?_
    refine v_alen (pc := 9) C (24, u) (v := 10) (ck_24 (g := g) hu) rfl (by decide) dX1_takeNext_9 ?_
    refine v_iconst (v := 1) (pc := 10) C dX1_takeNext_10 rfl ?_
    refine v_isub (pc := 11) C dX1_takeNext_11 ?_
    refine v_nm (y := .int (9)) (congrArg Value.int (by decide)) ?_
    refine v_icmp_ge (pc := 12) (tgt := 79) C dX1_takeNext_12 (by decide) (fun c_2 => ?_) (fun c_2 => ?_)
    · skip
      exact v_vret (pc := 79) C (by decide) (by decide) dX1_takeNext_79 ⟨rfl, rfl, (congrArg (fun q => w q r) (by show _ = _; rw [S_X1_takeNext, if_neg c_1, if_pos c_2]))⟩
    · skip
      refine v_iload_n (pc := 15) C dX1_takeNext_15 1 rfl rfl ?_
      refine v_aload_n (pc := 16) C dX1_takeNext_16 0 rfl rfl ?_
      refine v_get (pc := 17) C (23, u) (v := .ref (A (25, u))) (ck_23 (g := g) hu) rfl 1 (by decide) inX1 wd_459 rfl rfl dX1_takeNext_17 ?_
      refine v_alen (pc := 20) C (25, u) (v := 10) (ck_25 (g := g) hu) rfl (by decide) dX1_takeNext_20 ?_
      refine v_iconst (v := 1) (pc := 21) C dX1_takeNext_21 rfl ?_
      refine v_isub (pc := 22) C dX1_takeNext_22 ?_
      refine v_nm (y := .int (9)) (congrArg Value.int (by decide)) ?_
      refine v_icmp_ge (pc := 23) (tgt := 79) C dX1_takeNext_23 (by decide) (fun c_3 => ?_) (fun c_3 => ?_)
      · skip
        exact absurd c_3 c_2
      · skip
        refine v_iload_n (pc := 26) C dX1_takeNext_26 1 rfl rfl ?_
        refine v_aload_n (pc := 27) C dX1_takeNext_27 0 rfl rfl ?_
        refine v_get (pc := 28) C (23, u) (v := .ref (A (26, u))) (ck_23 (g := g) hu) rfl 2 (by decide) inX1 wd_460 rfl rfl dX1_takeNext_28 ?_
        refine v_alen (pc := 31) C (26, u) (v := 10) (ck_26 (g := g) hu) rfl (by decide) dX1_takeNext_31 ?_
        refine v_iconst (v := 1) (pc := 32) C dX1_takeNext_32 rfl ?_
        refine v_isub (pc := 33) C dX1_takeNext_33 ?_
        refine v_nm (y := .int (9)) (congrArg Value.int (by decide)) ?_
        refine v_icmp_ge (pc := 34) (tgt := 79) C dX1_takeNext_34 (by decide) (fun c_4 => ?_) (fun c_4 => ?_)
        · skip
          exact absurd c_4 c_3
        · skip
          refine v_aload_n (pc := 37) C dX1_takeNext_37 0 rfl rfl ?_
          refine v_get (pc := 38) C (23, u) (v := .ref (A (24, u))) (ck_23 (g := g) hu) rfl 0 (by decide) inX1 wd_458 rfl rfl dX1_takeNext_38 ?_
          refine v_iload_n (pc := 41) C dX1_takeNext_41 1 rfl rfl ?_
          refine v_aload_n (pc := 42) C dX1_takeNext_42 0 rfl rfl ?_
          refine v_get (pc := 43) C (23, u) (v := .ref (A (24, u))) (ck_23 (g := g) hu) rfl 0 (by decide) inX1 wd_458 rfl rfl dX1_takeNext_43 ?_
          refine v_iload_n (pc := 46) C dX1_takeNext_46 1 rfl rfl ?_
          refine v_iconst (v := 1) (pc := 47) C dX1_takeNext_47 rfl ?_
          refine v_iadd (pc := 48) C dX1_takeNext_48 ?_
          refine v_iald (pc := 49) C (24, u) (v := (g 30 u ((x + 1)).toNatClampNeg)) (ck_24 (g := g) hu) (by have hz := i32_add1 (x := x) (by simp only [Int32.le_iff_toInt_le, Int32.lt_iff_toInt_lt, ← Int32.toInt_inj, Int32.reduceToInt] at c_1 c_2 c_3 c_4; omega); simp only [Int32.le_iff_toInt_le, Int32.lt_iff_toInt_lt, ← Int32.toInt_inj, vp_in_iff, Int32.reduceToInt] at c_1 c_2 c_3 c_4 ⊢; omega) rfl dX1_takeNext_49 ?_
          refine v_iast (pc := 50) C (24, u) (x := (g 30 u ((x + 1)).toNatClampNeg)) (ck_24 (g := g) hu) (by (try simp only [Int32.le_iff_toInt_le, Int32.lt_iff_toInt_lt, ← Int32.toInt_inj, vp_in_iff, Int32.reduceToInt] at c_1 c_2 c_3 c_4 ⊢) <;> omega) dX1_takeNext_50 ?_
          refine v_h (h2 := (w (s3 g 30 u (x).toNatClampNeg ((g 30 u ((x + 1)).toNatClampNeg))) r)) (u_24_a (g := g) hu) ?_
          refine v_aload_n (pc := 51) C dX1_takeNext_51 0 rfl rfl ?_
          refine v_get (pc := 52) C (23, u) (v := .ref (A (25, u))) (ck_23 (g := (s3 g 30 u (x).toNatClampNeg ((g 30 u ((x + 1)).toNatClampNeg)))) hu) rfl 1 (by decide) inX1 wd_459 rfl rfl dX1_takeNext_52 ?_
          refine v_iload_n (pc := 55) C dX1_takeNext_55 1 rfl rfl ?_
          refine v_aload_n (pc := 56) C dX1_takeNext_56 0 rfl rfl ?_
          refine v_get (pc := 57) C (23, u) (v := .ref (A (25, u))) (ck_23 (g := (s3 g 30 u (x).toNatClampNeg ((g 30 u ((x + 1)).toNatClampNeg)))) hu) rfl 1 (by decide) inX1 wd_459 rfl rfl dX1_takeNext_57 ?_
          refine v_iload_n (pc := 60) C dX1_takeNext_60 1 rfl rfl ?_
          refine v_iconst (v := 1) (pc := 61) C dX1_takeNext_61 rfl ?_
          refine v_iadd (pc := 62) C dX1_takeNext_62 ?_
          refine v_iald (pc := 63) C (25, u) (v := (g 31 u ((x + 1)).toNatClampNeg)) (ck_25 (g := (s3 g 30 u (x).toNatClampNeg ((g 30 u ((x + 1)).toNatClampNeg)))) hu) (by have hz := i32_add1 (x := x) (by simp only [Int32.le_iff_toInt_le, Int32.lt_iff_toInt_lt, ← Int32.toInt_inj, Int32.reduceToInt] at c_1 c_2 c_3 c_4; omega); simp only [Int32.le_iff_toInt_le, Int32.lt_iff_toInt_lt, ← Int32.toInt_inj, vp_in_iff, Int32.reduceToInt] at c_1 c_2 c_3 c_4 ⊢; omega) rfl dX1_takeNext_63 ?_
          refine v_iast (pc := 64) C (25, u) (x := (g 31 u ((x + 1)).toNatClampNeg)) (ck_25 (g := (s3 g 30 u (x).toNatClampNeg ((g 30 u ((x + 1)).toNatClampNeg)))) hu) (by (try simp only [Int32.le_iff_toInt_le, Int32.lt_iff_toInt_lt, ← Int32.toInt_inj, vp_in_iff, Int32.reduceToInt] at c_1 c_2 c_3 c_4 ⊢) <;> omega) dX1_takeNext_64 ?_
          refine v_h (h2 := (w (s3 (s3 g 30 u (x).toNatClampNeg ((g 30 u ((x + 1)).toNatClampNeg))) 31 u (x).toNatClampNeg ((g 31 u ((x + 1)).toNatClampNeg))) r)) (u_25_a (g := (s3 g 30 u (x).toNatClampNeg ((g 30 u ((x + 1)).toNatClampNeg)))) hu) ?_
          refine v_aload_n (pc := 65) C dX1_takeNext_65 0 rfl rfl ?_
          refine v_get (pc := 66) C (23, u) (v := .ref (A (26, u))) (ck_23 (g := (s3 (s3 g 30 u (x).toNatClampNeg ((g 30 u ((x + 1)).toNatClampNeg))) 31 u (x).toNatClampNeg ((g 31 u ((x + 1)).toNatClampNeg)))) hu) rfl 2 (by decide) inX1 wd_460 rfl rfl dX1_takeNext_66 ?_
          refine v_iload_n (pc := 69) C dX1_takeNext_69 1 rfl rfl ?_
          refine v_aload_n (pc := 70) C dX1_takeNext_70 0 rfl rfl ?_
          refine v_get (pc := 71) C (23, u) (v := .ref (A (26, u))) (ck_23 (g := (s3 (s3 g 30 u (x).toNatClampNeg ((g 30 u ((x + 1)).toNatClampNeg))) 31 u (x).toNatClampNeg ((g 31 u ((x + 1)).toNatClampNeg)))) hu) rfl 2 (by decide) inX1 wd_460 rfl rfl dX1_takeNext_71 ?_
          refine v_iload_n (pc := 74) C dX1_takeNext_74 1 rfl rfl ?_
          refine v_iconst (v := 1) (pc := 75) C dX1_takeNext_75 rfl ?_
          refine v_iadd (pc := 76) C dX1_takeNext_76 ?_
          refine v_iald (pc := 77) C (26, u) (v := (g 32 u ((x + 1)).toNatClampNeg)) (ck_26 (g := (s3 (s3 g 30 u (x).toNatClampNeg ((g 30 u ((x + 1)).toNatClampNeg))) 31 u (x).toNatClampNeg ((g 31 u ((x + 1)).toNatClampNeg)))) hu) (by have hz := i32_add1 (x := x) (by simp only [Int32.le_iff_toInt_le, Int32.lt_iff_toInt_lt, ← Int32.toInt_inj, Int32.reduceToInt] at c_1 c_2 c_3 c_4; omega); simp only [Int32.le_iff_toInt_le, Int32.lt_iff_toInt_lt, ← Int32.toInt_inj, vp_in_iff, Int32.reduceToInt] at c_1 c_2 c_3 c_4 ⊢; omega) rfl dX1_takeNext_77 ?_
          refine v_iast (pc := 78) C (26, u) (x := (g 32 u ((x + 1)).toNatClampNeg)) (ck_26 (g := (s3 (s3 g 30 u (x).toNatClampNeg ((g 30 u ((x + 1)).toNatClampNeg))) 31 u (x).toNatClampNeg ((g 31 u ((x + 1)).toNatClampNeg)))) hu) (by (try simp only [Int32.le_iff_toInt_le, Int32.lt_iff_toInt_lt, ← Int32.toInt_inj, vp_in_iff, Int32.reduceToInt] at c_1 c_2 c_3 c_4 ⊢) <;> omega) dX1_takeNext_78 ?_
          refine v_h (h2 := (w (s3 (s3 (s3 g 30 u (x).toNatClampNeg ((g 30 u ((x + 1)).toNatClampNeg))) 31 u (x).toNatClampNeg ((g 31 u ((x + 1)).toNatClampNeg))) 32 u (x).toNatClampNeg ((g 32 u ((x + 1)).toNatClampNeg))) r)) (u_26_a (g := (s3 (s3 g 30 u (x).toNatClampNeg ((g 30 u ((x + 1)).toNatClampNeg))) 31 u (x).toNatClampNeg ((g 31 u ((x + 1)).toNatClampNeg)))) hu) ?_
          exact v_vret (pc := 79) C (by decide) (by decide) dX1_takeNext_79 ⟨rfl, rfl, (congrArg (fun q => w q r) (by show _ = _; rw [S_X1_takeNext, if_neg c_1, if_neg c_2]))⟩
def SL_X1_removeAt_15 (g : vS) (u : Nat) (x : Int32) : Nat → Nat → vS → vS
  | 0, _, q9 => q9
  | n + 1, i_15, q_15 => (if (g 27 u 0) ≤ nI (i_15 + 1) then (s3 q_15 27 u 0 (((g 27 u 0) - 1))) else (SL_X1_removeAt_15 g u x n (i_15 + 1) (S_X1_takeNext q_15 (u) (nI i_15))))
def S_X1_removeAt (g : vS) (u : Nat) (x : Int32) : vS := (if x < 0 then g else (if x < (g 27 u 0) then (SL_X1_removeAt_15 g u x (10 + 1) (x).toNatClampNeg g) else g))
theorem FL_X1_removeAt_15 {g : vS} {u : Nat} {x : Int32} {c i j : Nat} (h27 : c ≠ 27) (h30 : c ≠ 30) (h31 : c ≠ 31) (h32 : c ≠ 32) : ∀ (n : Nat) (a0 : Nat) (a1 : vS), a1 c i j = g c i j → SL_X1_removeAt_15 g u x n a0 a1 c i j = g c i j := by
  intro n
  induction n with
  | zero => intro a0 a1 hq9; exact hq9
  | succ n ih =>
    intro a0 a1 hq9
    simp only [SL_X1_removeAt_15]
    (repeat' split) <;> first | rfl | exact hq9 | (apply ih; first | exact hq9 | rfl | trivial | ((simp only [s3_k h27, s3_k h30, s3_k h31, s3_k h32, F_X1_takeNext h30 h31 h32]) <;> first | done | exact hq9 | rfl)) | ((simp only [s3_k h27, s3_k h30, s3_k h31, s3_k h32, F_X1_takeNext h30 h31 h32]) <;> first | done | exact hq9 | rfl)
theorem F_X1_removeAt {g : vS} {u : Nat} {x : Int32} {c i j : Nat} (h27 : c ≠ 27) (h30 : c ≠ 30) (h31 : c ≠ 31) (h32 : c ≠ 32) : S_X1_removeAt g u x c i j = g c i j := by
  unfold S_X1_removeAt
  (repeat' split) <;> first | rfl | (apply FL_X1_removeAt_15 h27 h30 h31 h32; first | rfl | trivial | ((simp only [s3_k h27, s3_k h30, s3_k h31, s3_k h32, F_X1_takeNext h30 h31 h32]) <;> first | done | rfl)) | ((simp only [s3_k h27, s3_k h30, s3_k h31, s3_k h32, F_X1_takeNext h30 h31 h32]) <;> first | done | rfl)
set_option maxHeartbeats 4000000 in
set_option maxRecDepth 100000 in
theorem c_X1_removeAt {G : vG} (hG : G.1.stackTraces = false) {A : vN → Nat} {g : vS} {r : vH} (u : Nat) (x : Int32) (hu : g 103 u 0 ≠ 0) (hc : g 27 u 0 ≤ 10) : vCt G yX1_removeAt cX1_removeAt 3 none 1 [.ref (A (23, u)), .int (x)] A (w g r) (fun v A2 h2 => v = none ∧ A2 = A ∧ h2 = w (S_X1_removeAt g u x) r) (vNoX) 0 0 := by
  refine v_of hG (by decide +kernel) (Nat.le_of_ble_eq_true rfl) (lv := [(0, .ref (A (23, u))), (1, .int (x))]) rfl (fun X C hnx => ?_)
  have C : vC G X cX1_removeAt 3 RX1 none "removeAt" 1 0 0 := C
  refine v_iload_n (pc := 0) C dX1_removeAt_0 1 rfl rfl ?_
  refine v_if_lt (pc := 1) (tgt := 12) C dX1_removeAt_1 (by decide) (fun c_1 => ?_) (fun c_1 => ?_)
  · skip
    exact v_vret (pc := 12) C (by decide) (by decide) dX1_removeAt_12 ⟨rfl, rfl, (congrArg (fun q => w q r) (by show _ = _; rw [S_X1_removeAt, if_pos c_1]))⟩
  · skip
    refine v_iload_n (pc := 4) C dX1_removeAt_4 1 rfl rfl ?_
    refine v_aload_n (pc := 5) C dX1_removeAt_5 0 rfl rfl ?_
    refine v_get (pc := 6) C (23, u) (v := .int ((g 27 u 0))) (ck_23 (g := g) hu) rfl 3 (by decide) inX1 wd_461 rfl rfl dX1_removeAt_6 ?_
    refine v_icmp_lt (pc := 9) (tgt := 13) C dX1_removeAt_9 (by decide) (fun c_2 => ?_) (fun c_2 => ?_)
    · skip
      refine v_iload_n (pc := 13) C dX1_removeAt_13 1 rfl rfl ?_
      refine v_istore_n (lv2 := [(2, .int (x)), (0, .ref (A (23, u))), (1, .int (x))]) (pc := 14) C dX1_removeAt_14 rfl (by decide) rfl ?_
      have L_15 : ∀ (n : Nat) (i_15 : Nat) (q_15 : vS), i_15 ≤ 10 → 10 + 1 ≤ i_15 + n → (∀ (c i j : Nat), c ≠ 30 → c ≠ 31 → c ≠ 32 → q_15 c i j = g c i j) → (S_X1_removeAt g u x) = SL_X1_removeAt_15 g u x n i_15 q_15 → V G 3 X A (w q_15 r) 0 0 (vM G X (fun v A2 h2 => v = none ∧ A2 = A ∧ h2 = w (S_X1_removeAt g u x) r) (vNoX) 0 0) 15 [(2, .int (nI i_15)), (0, .ref (A (23, u))), (1, .int (x))] [] := by
        intro n
        induction n with
        | zero => intro i_15 q_15 hi_15 hc_15 hF_15 eS_15; exact absurd hc_15 (by omega)
        | succ n ih =>
          intro i_15 q_15 hi_15 hc_15 hF_15 eS_15
          have hq_15 : (nI i_15).toInt = (i_15 : Int) := nI_toInt (by omega)
          have hr_15 : (nI (i_15 + 1)).toInt = ((i_15 + 1 : Nat) : Int) := nI_toInt (by omega)
          refine v_iload_n (pc := 15) C dX1_removeAt_15 0 rfl rfl ?_
          refine v_iconst (v := 1) (pc := 16) C dX1_removeAt_16 rfl ?_
          refine v_iadd (pc := 17) C dX1_removeAt_17 ?_
          refine v_nm (y := .int (nI (i_15 + 1))) (congrArg Value.int (nI_1 _)) ?_
          refine v_aload_n (pc := 18) C dX1_removeAt_18 1 rfl rfl ?_
          refine v_get (pc := 19) C (23, u) (v := .int ((g 27 u 0))) (ck_23 (g := q_15) (vtn (hF_15 _ _ _ (by decide) (by decide) (by decide)) hu)) rfl 3 (by decide) inX1 wd_461 rfl (congrArg Value.int (hF_15 _ _ _ (by decide) (by decide) (by decide))) dX1_removeAt_19 ?_
          refine v_icmp_ge (pc := 22) (tgt := 36) C dX1_removeAt_22 (by decide) (fun c_3 => ?_) (fun c_3 => ?_)
          · skip
            refine v_aload_n (pc := 36) C dX1_removeAt_36 1 rfl rfl ?_
            refine v_dup (pc := 37) C dX1_removeAt_37 rfl ?_
            refine v_get (pc := 38) C (23, u) (v := .int ((g 27 u 0))) (ck_23 (g := q_15) (vtn (hF_15 _ _ _ (by decide) (by decide) (by decide)) hu)) rfl 3 (by decide) inX1 wd_461 rfl (congrArg Value.int (hF_15 _ _ _ (by decide) (by decide) (by decide))) dX1_removeAt_38 ?_
            refine v_iconst (v := 1) (pc := 41) C dX1_removeAt_41 rfl ?_
            refine v_isub (pc := 42) C dX1_removeAt_42 ?_
            refine v_put (pc := 43) C (23, u) (v := .int (((g 27 u 0) - 1))) (ck_23 (g := q_15) (vtn (hF_15 _ _ _ (by decide) (by decide) (by decide)) hu)) rfl 3 (by decide) inX1 tyX1 tyX1_ok nmX1 wd_461 rfl (.inl (Value.int (((g 27 u 0) - 1)))) rfl (ty := tyX1 3) (by decide +kernel) rfl rfl (Nat.le_of_ble_eq_true rfl) dX1_removeAt_43 ?_
            refine v_h (h2 := (w (s3 q_15 27 u 0 (((g 27 u 0) - 1))) r)) (u_23_3 (g := q_15) (vtn (hF_15 _ _ _ (by decide) (by decide) (by decide)) hu)) ?_
            exact v_vret (pc := 46) C (by decide) (by decide) dX1_removeAt_46 ⟨rfl, rfl, (congrArg (fun q => w q r) (by show _ = _; rw [eS_15, SL_X1_removeAt_15, if_pos c_3]))⟩
          · skip
            refine v_aload_n (pc := 25) C dX1_removeAt_25 1 rfl rfl ?_
            refine v_iload_n (pc := 26) C dX1_removeAt_26 0 rfl rfl ?_
            refine v_callV (pc := 27) C (23, u) (ck_23 (g := q_15) (vtn (hF_15 _ _ _ (by decide) (by decide) (by decide)) hu)) rfl (c_X1_takeNext hG (u) (nI i_15) (vtn (hF_15 _ _ _ (by decide) (by decide) (by decide)) hu)) 1 wd_1266 wd_75 wd_1263 wd_1265 wd_31 (by decide +kernel) (by decide) (by decide) rfl ([]) rfl (Nat.le_of_ble_eq_true rfl) (by decide) dX1_removeAt_27 (fun _ _ _ q => q.elim) (fun v9 A9 h9 hR9 => ?_)
            obtain ⟨rfl, hA9, rfl⟩ := hR9
            obtain rfl := hA9.symm
            refine v_st (k2 := 0) (n2 := 0) (st2 := []) rfl rfl rfl ?_
            refine v_iinc (v := nI (i_15 + 1)) (lv2 := [(2, .int (nI (i_15 + 1))), (0, .ref (A (23, u))), (1, .int (x))]) (pc := 30) C dX1_removeAt_30 0 rfl (nI_1 _) (by decide) rfl ?_
            refine v_goto (tgt := 15) (pc := 33) C dX1_removeAt_33 (by decide) ?_
            refine v_lv (lv2 := [(2, .int (nI (i_15 + 1))), (0, .ref (A (23, u))), (1, .int (x))]) [0, 1, 2] rfl ?_
            exact ih (i_15 + 1) (S_X1_takeNext q_15 (u) (nI i_15)) (by (try simp only [Int32.le_iff_toInt_le, Int32.lt_iff_toInt_lt, ← Int32.toInt_inj, vp_in_iff, Int32.reduceToInt] at c_1 c_2 c_3 hq_15 hr_15 hc ⊢) <;> omega) (by omega) (fun c i j h30 h31 h32 => (F_X1_takeNext h30 h31 h32).trans (hF_15 c i j h30 h31 h32)) (by rw [eS_15, SL_X1_removeAt_15, if_neg c_3])
      refine v_lve (lv2 := [(2, .int (nI (x).toNatClampNeg)), (0, .ref (A (23, u))), (1, .int (x))]) (by rw [nI_tn c_1]) ?_
      exact L_15 (10 + 1) (x).toNatClampNeg g (tn_le (by simp only [Int32.le_iff_toInt_le, Int32.lt_iff_toInt_lt, Int32.reduceToInt] at hc c_1 c_2; omega)) (by omega) (fun c i j h30 h31 h32 => rfl) (by rw [S_X1_removeAt, if_neg c_1, if_pos c_2])
    · skip
      exact v_vret (pc := 12) C (by decide) (by decide) dX1_removeAt_12 ⟨rfl, rfl, (congrArg (fun q => w q r) (by show _ = _; rw [S_X1_removeAt, if_neg c_1, if_neg c_2]))⟩
def V_X1_hasRoomFor (g : vS) (u : Nat) (x : Int32) : Int32 := (if (g 27 u 0) < 10 then 1 else (if (V_X1_indexOf g (u) (x)) < 0 then 0 else 1))
theorem B_X1_hasRoomFor {g : vS} {u : Nat} {x : Int32} : V_X1_hasRoomFor g u x = 0 ∨ V_X1_hasRoomFor g u x = 1 := by
  unfold V_X1_hasRoomFor
  (repeat' split) <;> first | exact Or.inl rfl | exact Or.inr rfl
set_option maxHeartbeats 4000000 in
set_option maxRecDepth 100000 in
theorem c_X1_hasRoomFor {G : vG} (hG : G.1.stackTraces = false) {A : vN → Nat} {g : vS} {r : vH} (u : Nat) (x : Int32) (hu : g 103 u 0 ≠ 0) : vCt G yX1_hasRoomFor cX1_hasRoomFor 2 (some .boolean) 1 [.ref (A (23, u)), .int (x)] A (w g r) (fun v A2 h2 => v = some (.int (V_X1_hasRoomFor g u x)) ∧ A2 = A ∧ h2 = w g r) (vNoX) 0 0 := by
  refine v_of hG (by decide +kernel) (Nat.le_of_ble_eq_true rfl) (lv := [(0, .ref (A (23, u))), (1, .int (x))]) rfl (fun X C hnx => ?_)
  have C : vC G X cX1_hasRoomFor 2 RX1 (some .boolean) "hasRoomFor" 1 0 0 := C
  refine v_aload_n (pc := 0) C dX1_hasRoomFor_0 0 rfl rfl ?_
  refine v_get (pc := 1) C (23, u) (v := .int ((g 27 u 0))) (ck_23 (g := g) hu) rfl 3 (by decide) inX1 wd_461 rfl rfl dX1_hasRoomFor_1 ?_
  refine v_bipush (v := 10) (pc := 4) C dX1_hasRoomFor_4 (by decide) ?_
  refine v_icmp_lt (pc := 6) (tgt := 17) C dX1_hasRoomFor_6 (by decide) (fun c_1 => ?_) (fun c_1 => ?_)
  · skip
    refine v_iconst (v := 1) (pc := 17) C dX1_hasRoomFor_17 rfl ?_
    refine v_goto (tgt := 22) (pc := 18) C dX1_hasRoomFor_18 (by decide) ?_
    exact v_zret (pc := 22) C rfl (by decide) (by decide) dX1_hasRoomFor_22 ⟨(congrArg (fun q => some (Value.int q)) (by show _ = _; rw [V_X1_hasRoomFor, if_pos c_1])), rfl, rfl⟩
  · skip
    refine v_aload_n (pc := 9) C dX1_hasRoomFor_9 0 rfl rfl ?_
    refine v_iload_n (pc := 10) C dX1_hasRoomFor_10 1 rfl rfl ?_
    refine v_callV (pc := 11) C (23, u) (ck_23 (g := g) hu) rfl (c_X1_indexOf hG (u) (x) hu) 1 wd_1253 wd_75 wd_1250 wd_1252 wd_29 (by decide +kernel) (by decide) (by decide) rfl ([]) rfl (Nat.le_of_ble_eq_true rfl) (by decide) dX1_hasRoomFor_11 (fun _ _ _ q => q.elim) (fun v9 A9 h9 hR9 => ?_)
    obtain ⟨rfl, hA9, rfl⟩ := hR9
    obtain rfl := hA9.symm
    refine v_st (k2 := 0) (n2 := 0) (st2 := [.int ((V_X1_indexOf g (u) (x)))]) rfl rfl rfl ?_
    refine v_if_lt (pc := 14) (tgt := 21) C dX1_hasRoomFor_14 (by decide) (fun c_2 => ?_) (fun c_2 => ?_)
    · skip
      refine v_iconst (v := 0) (pc := 21) C dX1_hasRoomFor_21 rfl ?_
      exact v_zret (pc := 22) C rfl (by decide) (by decide) dX1_hasRoomFor_22 ⟨(congrArg (fun q => some (Value.int q)) (by show _ = _; rw [V_X1_hasRoomFor, if_neg c_1, if_pos c_2])), rfl, rfl⟩
    · skip
      refine v_iconst (v := 1) (pc := 17) C dX1_hasRoomFor_17 rfl ?_
      refine v_goto (tgt := 22) (pc := 18) C dX1_hasRoomFor_18 (by decide) ?_
      exact v_zret (pc := 22) C rfl (by decide) (by decide) dX1_hasRoomFor_22 ⟨(congrArg (fun q => some (Value.int q)) (by show _ = _; rw [V_X1_hasRoomFor, if_neg c_1, if_neg c_2])), rfl, rfl⟩
def S_X1_keep (g : vS) (u : Nat) (x : Int32) (y : Int32) (z : Int32) : vS := (if ((S_X1_removeAt g (u) ((V_X1_indexOf g (u) (x)))) 27 u 0) < 0 then (S_X1_removeAt g (u) ((V_X1_indexOf g (u) (x)))) else (if 10 ≤ ((S_X1_removeAt g (u) ((V_X1_indexOf g (u) (x)))) 27 u 0) then (S_X1_removeAt g (u) ((V_X1_indexOf g (u) (x)))) else (s3 (s3 (s3 (s3 (S_X1_removeAt g (u) ((V_X1_indexOf g (u) (x)))) 30 u (((S_X1_removeAt g (u) ((V_X1_indexOf g (u) (x)))) 27 u 0)).toNatClampNeg (x)) 31 u (((S_X1_removeAt g (u) ((V_X1_indexOf g (u) (x)))) 27 u 0)).toNatClampNeg (y)) 32 u (((S_X1_removeAt g (u) ((V_X1_indexOf g (u) (x)))) 27 u 0)).toNatClampNeg (z)) 27 u 0 ((((S_X1_removeAt g (u) ((V_X1_indexOf g (u) (x)))) 27 u 0) + 1)))))
theorem F_X1_keep {g : vS} {u : Nat} {x : Int32} {y : Int32} {z : Int32} {c i j : Nat} (h27 : c ≠ 27) (h30 : c ≠ 30) (h31 : c ≠ 31) (h32 : c ≠ 32) : S_X1_keep g u x y z c i j = g c i j := by
  unfold S_X1_keep
  (repeat' split) <;> first | rfl | ((simp only [s3_k h27, s3_k h30, s3_k h31, s3_k h32, F_X1_removeAt h27 h30 h31 h32]) <;> first | done | rfl)
set_option maxHeartbeats 4000000 in
set_option maxRecDepth 100000 in
theorem c_X1_keep {G : vG} (hG : G.1.stackTraces = false) {A : vN → Nat} {g : vS} {r : vH} (u : Nat) (x : Int32) (y : Int32) (z : Int32) (hu : g 103 u 0 ≠ 0) (hc : g 27 u 0 ≤ 10) : vCt G yX1_keep cX1_keep 4 none 2 [.ref (A (23, u)), .int (x), .int (y), .int (z)] A (w g r) (fun v A2 h2 => v = none ∧ A2 = A ∧ h2 = w (S_X1_keep g u x y z) r) (vNoX) 0 0 := by
  refine v_of hG (by decide +kernel) (Nat.le_of_ble_eq_true rfl) (lv := [(0, .ref (A (23, u))), (1, .int (x)), (2, .int (y)), (3, .int (z))]) rfl (fun X C hnx => ?_)
  have C : vC G X cX1_keep 4 RX1 none "keep" 2 0 0 := C
  refine v_aload_n (pc := 0) C dX1_keep_0 0 rfl rfl ?_
  refine v_aload_n (pc := 1) C dX1_keep_1 0 rfl rfl ?_
  refine v_iload_n (pc := 2) C dX1_keep_2 1 rfl rfl ?_
  refine v_callV (pc := 3) C (23, u) (ck_23 (g := g) hu) rfl (c_X1_indexOf hG (u) (x) hu) 1 wd_1253 wd_75 wd_1250 wd_1252 wd_29 (by decide +kernel) (by decide) (by decide) rfl ([.ref (A (23, u))]) rfl (Nat.le_of_ble_eq_true rfl) (by decide) dX1_keep_3 (fun _ _ _ q => q.elim) (fun v9 A9 h9 hR9 => ?_)
  obtain ⟨rfl, hA9, rfl⟩ := hR9
  obtain rfl := hA9.symm
  refine v_st (k2 := 0) (n2 := 0) (st2 := [.int ((V_X1_indexOf g (u) (x))), .ref (A (23, u))]) rfl rfl rfl ?_
  refine v_callV (pc := 6) C (23, u) (ck_23 (g := g) hu) rfl (c_X1_removeAt hG (u) ((V_X1_indexOf g (u) (x))) hu hc) 1 wd_1262 wd_75 wd_1259 wd_1261 wd_30 (by decide +kernel) (by decide) (by decide) rfl ([]) rfl (Nat.le_of_ble_eq_true rfl) (by decide) dX1_keep_6 (fun _ _ _ q => q.elim) (fun v9 A9 h9 hR9 => ?_)
  obtain ⟨rfl, hA9, rfl⟩ := hR9
  obtain rfl := hA9.symm
  refine v_st (k2 := 0) (n2 := 0) (st2 := []) rfl rfl rfl ?_
  refine v_aload_n (pc := 9) C dX1_keep_9 0 rfl rfl ?_
  refine v_get (pc := 10) C (23, u) (v := .int (((S_X1_removeAt g (u) ((V_X1_indexOf g (u) (x)))) 27 u 0))) (ck_23 (g := (S_X1_removeAt g (u) ((V_X1_indexOf g (u) (x))))) (vtn (F_X1_removeAt (by decide) (by decide) (by decide) (by decide)) hu)) rfl 3 (by decide) inX1 wd_461 rfl rfl dX1_keep_10 ?_
  refine v_if_lt (pc := 13) (tgt := 92) C dX1_keep_13 (by decide) (fun c_1 => ?_) (fun c_1 => ?_)
  · skip
    exact v_vret (pc := 92) C (by decide) (by decide) dX1_keep_92 ⟨rfl, rfl, (congrArg (fun q => w q r) (by show _ = _; rw [S_X1_keep, if_pos c_1]))⟩
  · skip
    refine v_aload_n (pc := 16) C dX1_keep_16 0 rfl rfl ?_
    refine v_get (pc := 17) C (23, u) (v := .int (((S_X1_removeAt g (u) ((V_X1_indexOf g (u) (x)))) 27 u 0))) (ck_23 (g := (S_X1_removeAt g (u) ((V_X1_indexOf g (u) (x))))) (vtn (F_X1_removeAt (by decide) (by decide) (by decide) (by decide)) hu)) rfl 3 (by decide) inX1 wd_461 rfl rfl dX1_keep_17 ?_
    refine v_aload_n (pc := 20) C dX1_keep_20 0 rfl rfl ?_
    refine v_get (pc := 21) C (23, u) (v := .ref (A (24, u))) (ck_23 (g := (S_X1_removeAt g (u) ((V_X1_indexOf g (u) (x))))) (vtn (F_X1_removeAt (by decide) (by decide) (by decide) (by decide)) hu)) rfl 0 (by decide) inX1 wd_458 rfl rfl dX1_keep_21 ?_
    refine v_alen (pc := 24) C (24, u) (v := 10) (ck_24 (g := (S_X1_removeAt g (u) ((V_X1_indexOf g (u) (x))))) (vtn (F_X1_removeAt (by decide) (by decide) (by decide) (by decide)) hu)) rfl (by decide) dX1_keep_24 ?_
    refine v_icmp_ge (pc := 25) (tgt := 92) C dX1_keep_25 (by decide) (fun c_2 => ?_) (fun c_2 => ?_)
    · skip
      exact v_vret (pc := 92) C (by decide) (by decide) dX1_keep_92 ⟨rfl, rfl, (congrArg (fun q => w q r) (by show _ = _; rw [S_X1_keep, if_neg c_1, if_pos c_2]))⟩
    · skip
      refine v_aload_n (pc := 28) C dX1_keep_28 0 rfl rfl ?_
      refine v_get (pc := 29) C (23, u) (v := .int (((S_X1_removeAt g (u) ((V_X1_indexOf g (u) (x)))) 27 u 0))) (ck_23 (g := (S_X1_removeAt g (u) ((V_X1_indexOf g (u) (x))))) (vtn (F_X1_removeAt (by decide) (by decide) (by decide) (by decide)) hu)) rfl 3 (by decide) inX1 wd_461 rfl rfl dX1_keep_29 ?_
      refine v_aload_n (pc := 32) C dX1_keep_32 0 rfl rfl ?_
      refine v_get (pc := 33) C (23, u) (v := .ref (A (25, u))) (ck_23 (g := (S_X1_removeAt g (u) ((V_X1_indexOf g (u) (x))))) (vtn (F_X1_removeAt (by decide) (by decide) (by decide) (by decide)) hu)) rfl 1 (by decide) inX1 wd_459 rfl rfl dX1_keep_33 ?_
      refine v_alen (pc := 36) C (25, u) (v := 10) (ck_25 (g := (S_X1_removeAt g (u) ((V_X1_indexOf g (u) (x))))) (vtn (F_X1_removeAt (by decide) (by decide) (by decide) (by decide)) hu)) rfl (by decide) dX1_keep_36 ?_
      refine v_icmp_ge (pc := 37) (tgt := 92) C dX1_keep_37 (by decide) (fun c_3 => ?_) (fun c_3 => ?_)
      · skip
        exact absurd c_3 c_2
      · skip
        refine v_aload_n (pc := 40) C dX1_keep_40 0 rfl rfl ?_
        refine v_get (pc := 41) C (23, u) (v := .int (((S_X1_removeAt g (u) ((V_X1_indexOf g (u) (x)))) 27 u 0))) (ck_23 (g := (S_X1_removeAt g (u) ((V_X1_indexOf g (u) (x))))) (vtn (F_X1_removeAt (by decide) (by decide) (by decide) (by decide)) hu)) rfl 3 (by decide) inX1 wd_461 rfl rfl dX1_keep_41 ?_
        refine v_aload_n (pc := 44) C dX1_keep_44 0 rfl rfl ?_
        refine v_get (pc := 45) C (23, u) (v := .ref (A (26, u))) (ck_23 (g := (S_X1_removeAt g (u) ((V_X1_indexOf g (u) (x))))) (vtn (F_X1_removeAt (by decide) (by decide) (by decide) (by decide)) hu)) rfl 2 (by decide) inX1 wd_460 rfl rfl dX1_keep_45 ?_
        refine v_alen (pc := 48) C (26, u) (v := 10) (ck_26 (g := (S_X1_removeAt g (u) ((V_X1_indexOf g (u) (x))))) (vtn (F_X1_removeAt (by decide) (by decide) (by decide) (by decide)) hu)) rfl (by decide) dX1_keep_48 ?_
        refine v_icmp_ge (pc := 49) (tgt := 92) C dX1_keep_49 (by decide) (fun c_4 => ?_) (fun c_4 => ?_)
        · skip
          exact absurd c_4 c_3
        · skip
          refine v_aload_n (pc := 52) C dX1_keep_52 0 rfl rfl ?_
          refine v_get (pc := 53) C (23, u) (v := .ref (A (24, u))) (ck_23 (g := (S_X1_removeAt g (u) ((V_X1_indexOf g (u) (x))))) (vtn (F_X1_removeAt (by decide) (by decide) (by decide) (by decide)) hu)) rfl 0 (by decide) inX1 wd_458 rfl rfl dX1_keep_53 ?_
          refine v_aload_n (pc := 56) C dX1_keep_56 0 rfl rfl ?_
          refine v_get (pc := 57) C (23, u) (v := .int (((S_X1_removeAt g (u) ((V_X1_indexOf g (u) (x)))) 27 u 0))) (ck_23 (g := (S_X1_removeAt g (u) ((V_X1_indexOf g (u) (x))))) (vtn (F_X1_removeAt (by decide) (by decide) (by decide) (by decide)) hu)) rfl 3 (by decide) inX1 wd_461 rfl rfl dX1_keep_57 ?_
          refine v_iload_n (pc := 60) C dX1_keep_60 1 rfl rfl ?_
          refine v_iast (pc := 61) C (24, u) (x := x) (ck_24 (g := (S_X1_removeAt g (u) ((V_X1_indexOf g (u) (x))))) (vtn (F_X1_removeAt (by decide) (by decide) (by decide) (by decide)) hu)) (by (try simp only [Int32.le_iff_toInt_le, Int32.lt_iff_toInt_lt, ← Int32.toInt_inj, vp_in_iff, Int32.reduceToInt] at c_1 c_2 c_3 c_4 ⊢) <;> omega) dX1_keep_61 ?_
          refine v_h (h2 := (w (s3 (S_X1_removeAt g (u) ((V_X1_indexOf g (u) (x)))) 30 u (((S_X1_removeAt g (u) ((V_X1_indexOf g (u) (x)))) 27 u 0)).toNatClampNeg (x)) r)) (u_24_a (g := (S_X1_removeAt g (u) ((V_X1_indexOf g (u) (x))))) (vtn (F_X1_removeAt (by decide) (by decide) (by decide) (by decide)) hu)) ?_
          refine v_aload_n (pc := 62) C dX1_keep_62 0 rfl rfl ?_
          refine v_get (pc := 63) C (23, u) (v := .ref (A (25, u))) (ck_23 (g := (s3 (S_X1_removeAt g (u) ((V_X1_indexOf g (u) (x)))) 30 u (((S_X1_removeAt g (u) ((V_X1_indexOf g (u) (x)))) 27 u 0)).toNatClampNeg (x))) (vtn ((s3_k (by decide)).trans (F_X1_removeAt (by decide) (by decide) (by decide) (by decide))) hu)) rfl 1 (by decide) inX1 wd_459 rfl rfl dX1_keep_63 ?_
          refine v_aload_n (pc := 66) C dX1_keep_66 0 rfl rfl ?_
          refine v_get (pc := 67) C (23, u) (v := .int (((S_X1_removeAt g (u) ((V_X1_indexOf g (u) (x)))) 27 u 0))) (ck_23 (g := (s3 (S_X1_removeAt g (u) ((V_X1_indexOf g (u) (x)))) 30 u (((S_X1_removeAt g (u) ((V_X1_indexOf g (u) (x)))) 27 u 0)).toNatClampNeg (x))) (vtn ((s3_k (by decide)).trans (F_X1_removeAt (by decide) (by decide) (by decide) (by decide))) hu)) rfl 3 (by decide) inX1 wd_461 rfl rfl dX1_keep_67 ?_
          refine v_iload_n (pc := 70) C dX1_keep_70 2 rfl rfl ?_
          refine v_iast (pc := 71) C (25, u) (x := y) (ck_25 (g := (s3 (S_X1_removeAt g (u) ((V_X1_indexOf g (u) (x)))) 30 u (((S_X1_removeAt g (u) ((V_X1_indexOf g (u) (x)))) 27 u 0)).toNatClampNeg (x))) (vtn ((s3_k (by decide)).trans (F_X1_removeAt (by decide) (by decide) (by decide) (by decide))) hu)) (by (try simp only [Int32.le_iff_toInt_le, Int32.lt_iff_toInt_lt, ← Int32.toInt_inj, vp_in_iff, Int32.reduceToInt] at c_1 c_2 c_3 c_4 ⊢) <;> omega) dX1_keep_71 ?_
          refine v_h (h2 := (w (s3 (s3 (S_X1_removeAt g (u) ((V_X1_indexOf g (u) (x)))) 30 u (((S_X1_removeAt g (u) ((V_X1_indexOf g (u) (x)))) 27 u 0)).toNatClampNeg (x)) 31 u (((S_X1_removeAt g (u) ((V_X1_indexOf g (u) (x)))) 27 u 0)).toNatClampNeg (y)) r)) (u_25_a (g := (s3 (S_X1_removeAt g (u) ((V_X1_indexOf g (u) (x)))) 30 u (((S_X1_removeAt g (u) ((V_X1_indexOf g (u) (x)))) 27 u 0)).toNatClampNeg (x))) (vtn ((s3_k (by decide)).trans (F_X1_removeAt (by decide) (by decide) (by decide) (by decide))) hu)) ?_
          refine v_aload_n (pc := 72) C dX1_keep_72 0 rfl rfl ?_
          refine v_get (pc := 73) C (23, u) (v := .ref (A (26, u))) (ck_23 (g := (s3 (s3 (S_X1_removeAt g (u) ((V_X1_indexOf g (u) (x)))) 30 u (((S_X1_removeAt g (u) ((V_X1_indexOf g (u) (x)))) 27 u 0)).toNatClampNeg (x)) 31 u (((S_X1_removeAt g (u) ((V_X1_indexOf g (u) (x)))) 27 u 0)).toNatClampNeg (y))) (vtn ((s3_k (by decide)).trans ((s3_k (by decide)).trans (F_X1_removeAt (by decide) (by decide) (by decide) (by decide)))) hu)) rfl 2 (by decide) inX1 wd_460 rfl rfl dX1_keep_73 ?_
          refine v_aload_n (pc := 76) C dX1_keep_76 0 rfl rfl ?_
          refine v_get (pc := 77) C (23, u) (v := .int (((S_X1_removeAt g (u) ((V_X1_indexOf g (u) (x)))) 27 u 0))) (ck_23 (g := (s3 (s3 (S_X1_removeAt g (u) ((V_X1_indexOf g (u) (x)))) 30 u (((S_X1_removeAt g (u) ((V_X1_indexOf g (u) (x)))) 27 u 0)).toNatClampNeg (x)) 31 u (((S_X1_removeAt g (u) ((V_X1_indexOf g (u) (x)))) 27 u 0)).toNatClampNeg (y))) (vtn ((s3_k (by decide)).trans ((s3_k (by decide)).trans (F_X1_removeAt (by decide) (by decide) (by decide) (by decide)))) hu)) rfl 3 (by decide) inX1 wd_461 rfl rfl dX1_keep_77 ?_
          refine v_iload_n (pc := 80) C dX1_keep_80 3 rfl rfl ?_
          refine v_iast (pc := 81) C (26, u) (x := z) (ck_26 (g := (s3 (s3 (S_X1_removeAt g (u) ((V_X1_indexOf g (u) (x)))) 30 u (((S_X1_removeAt g (u) ((V_X1_indexOf g (u) (x)))) 27 u 0)).toNatClampNeg (x)) 31 u (((S_X1_removeAt g (u) ((V_X1_indexOf g (u) (x)))) 27 u 0)).toNatClampNeg (y))) (vtn ((s3_k (by decide)).trans ((s3_k (by decide)).trans (F_X1_removeAt (by decide) (by decide) (by decide) (by decide)))) hu)) (by (try simp only [Int32.le_iff_toInt_le, Int32.lt_iff_toInt_lt, ← Int32.toInt_inj, vp_in_iff, Int32.reduceToInt] at c_1 c_2 c_3 c_4 ⊢) <;> omega) dX1_keep_81 ?_
          refine v_h (h2 := (w (s3 (s3 (s3 (S_X1_removeAt g (u) ((V_X1_indexOf g (u) (x)))) 30 u (((S_X1_removeAt g (u) ((V_X1_indexOf g (u) (x)))) 27 u 0)).toNatClampNeg (x)) 31 u (((S_X1_removeAt g (u) ((V_X1_indexOf g (u) (x)))) 27 u 0)).toNatClampNeg (y)) 32 u (((S_X1_removeAt g (u) ((V_X1_indexOf g (u) (x)))) 27 u 0)).toNatClampNeg (z)) r)) (u_26_a (g := (s3 (s3 (S_X1_removeAt g (u) ((V_X1_indexOf g (u) (x)))) 30 u (((S_X1_removeAt g (u) ((V_X1_indexOf g (u) (x)))) 27 u 0)).toNatClampNeg (x)) 31 u (((S_X1_removeAt g (u) ((V_X1_indexOf g (u) (x)))) 27 u 0)).toNatClampNeg (y))) (vtn ((s3_k (by decide)).trans ((s3_k (by decide)).trans (F_X1_removeAt (by decide) (by decide) (by decide) (by decide)))) hu)) ?_
          refine v_aload_n (pc := 82) C dX1_keep_82 0 rfl rfl ?_
          refine v_dup (pc := 83) C dX1_keep_83 rfl ?_
          refine v_get (pc := 84) C (23, u) (v := .int (((S_X1_removeAt g (u) ((V_X1_indexOf g (u) (x)))) 27 u 0))) (ck_23 (g := (s3 (s3 (s3 (S_X1_removeAt g (u) ((V_X1_indexOf g (u) (x)))) 30 u (((S_X1_removeAt g (u) ((V_X1_indexOf g (u) (x)))) 27 u 0)).toNatClampNeg (x)) 31 u (((S_X1_removeAt g (u) ((V_X1_indexOf g (u) (x)))) 27 u 0)).toNatClampNeg (y)) 32 u (((S_X1_removeAt g (u) ((V_X1_indexOf g (u) (x)))) 27 u 0)).toNatClampNeg (z))) (vtn ((s3_k (by decide)).trans ((s3_k (by decide)).trans ((s3_k (by decide)).trans (F_X1_removeAt (by decide) (by decide) (by decide) (by decide))))) hu)) rfl 3 (by decide) inX1 wd_461 rfl rfl dX1_keep_84 ?_
          refine v_iconst (v := 1) (pc := 87) C dX1_keep_87 rfl ?_
          refine v_iadd (pc := 88) C dX1_keep_88 ?_
          refine v_put (pc := 89) C (23, u) (v := .int ((((S_X1_removeAt g (u) ((V_X1_indexOf g (u) (x)))) 27 u 0) + 1))) (ck_23 (g := (s3 (s3 (s3 (S_X1_removeAt g (u) ((V_X1_indexOf g (u) (x)))) 30 u (((S_X1_removeAt g (u) ((V_X1_indexOf g (u) (x)))) 27 u 0)).toNatClampNeg (x)) 31 u (((S_X1_removeAt g (u) ((V_X1_indexOf g (u) (x)))) 27 u 0)).toNatClampNeg (y)) 32 u (((S_X1_removeAt g (u) ((V_X1_indexOf g (u) (x)))) 27 u 0)).toNatClampNeg (z))) (vtn ((s3_k (by decide)).trans ((s3_k (by decide)).trans ((s3_k (by decide)).trans (F_X1_removeAt (by decide) (by decide) (by decide) (by decide))))) hu)) rfl 3 (by decide) inX1 tyX1 tyX1_ok nmX1 wd_461 rfl (.inl (Value.int ((((S_X1_removeAt g (u) ((V_X1_indexOf g (u) (x)))) 27 u 0) + 1)))) rfl (ty := tyX1 3) (by decide +kernel) rfl rfl (Nat.le_of_ble_eq_true rfl) dX1_keep_89 ?_
          refine v_h (h2 := (w (s3 (s3 (s3 (s3 (S_X1_removeAt g (u) ((V_X1_indexOf g (u) (x)))) 30 u (((S_X1_removeAt g (u) ((V_X1_indexOf g (u) (x)))) 27 u 0)).toNatClampNeg (x)) 31 u (((S_X1_removeAt g (u) ((V_X1_indexOf g (u) (x)))) 27 u 0)).toNatClampNeg (y)) 32 u (((S_X1_removeAt g (u) ((V_X1_indexOf g (u) (x)))) 27 u 0)).toNatClampNeg (z)) 27 u 0 ((((S_X1_removeAt g (u) ((V_X1_indexOf g (u) (x)))) 27 u 0) + 1))) r)) (u_23_3 (g := (s3 (s3 (s3 (S_X1_removeAt g (u) ((V_X1_indexOf g (u) (x)))) 30 u (((S_X1_removeAt g (u) ((V_X1_indexOf g (u) (x)))) 27 u 0)).toNatClampNeg (x)) 31 u (((S_X1_removeAt g (u) ((V_X1_indexOf g (u) (x)))) 27 u 0)).toNatClampNeg (y)) 32 u (((S_X1_removeAt g (u) ((V_X1_indexOf g (u) (x)))) 27 u 0)).toNatClampNeg (z))) (vtn ((s3_k (by decide)).trans ((s3_k (by decide)).trans ((s3_k (by decide)).trans (F_X1_removeAt (by decide) (by decide) (by decide) (by decide))))) hu)) ?_
          exact v_vret (pc := 92) C (by decide) (by decide) dX1_keep_92 ⟨rfl, rfl, (congrArg (fun q => w q r) (by show _ = _; rw [S_X1_keep, if_neg c_1, if_neg c_2]))⟩
def V_X2_isFull (g : vS)  : Int32 := (if (g 11 0 0) < 517 then 0 else 1)
theorem B_X2_isFull {g : vS}  : V_X2_isFull g = 0 ∨ V_X2_isFull g = 1 := by
  unfold V_X2_isFull
  (repeat' split) <;> first | exact Or.inl rfl | exact Or.inr rfl
set_option maxHeartbeats 4000000 in
set_option maxRecDepth 100000 in
theorem c_X2_isFull {G : vG} (hG : G.1.stackTraces = false) {A : vN → Nat} {g : vS} {r : vH}   : vCt G yX2_isFull cX2_isFull 1 (some .boolean) 0 [.ref (A (7, 0))] A (w g r) (fun v A2 h2 => v = some (.int (V_X2_isFull g)) ∧ A2 = A ∧ h2 = w g r) (vNoX) 0 0 := by
  refine v_of hG (by decide +kernel) (Nat.le_of_ble_eq_true rfl) (lv := [(0, .ref (A (7, 0)))]) rfl (fun X C hnx => ?_)
  have C : vC G X cX2_isFull 1 RX2 (some .boolean) "isFull" 0 0 0 := C
  refine v_aload_n (pc := 0) C dX2_isFull_0 0 rfl rfl ?_
  refine v_get (pc := 1) C (7, 0) (v := .int ((g 11 0 0))) ck_7 rfl 3 (by decide) inX2 wd_133 rfl rfl dX2_isFull_1 ?_
  refine v_sipush (v := 517) (pc := 4) C dX2_isFull_4 (by decide) ?_
  refine v_icmp_lt (pc := 7) (tgt := 14) C dX2_isFull_7 (by decide) (fun c_1 => ?_) (fun c_1 => ?_)
  · skip
    refine v_iconst (v := 0) (pc := 14) C dX2_isFull_14 rfl ?_
    exact v_zret (pc := 15) C rfl (by decide) (by decide) dX2_isFull_15 ⟨(congrArg (fun q => some (Value.int q)) (by show _ = _; rw [V_X2_isFull, if_pos c_1])), rfl, rfl⟩
  · skip
    refine v_iconst (v := 1) (pc := 10) C dX2_isFull_10 rfl ?_
    refine v_goto (tgt := 15) (pc := 11) C dX2_isFull_11 (by decide) ?_
    exact v_zret (pc := 15) C rfl (by decide) (by decide) dX2_isFull_15 ⟨(congrArg (fun q => some (Value.int q)) (by show _ = _; rw [V_X2_isFull, if_neg c_1])), rfl, rfl⟩
def V_X2_moment (g : vS)  : Int32 := (g 11 0 0)
set_option maxHeartbeats 4000000 in
set_option maxRecDepth 100000 in
theorem c_X2_moment {G : vG} (hG : G.1.stackTraces = false) {A : vN → Nat} {g : vS} {r : vH}   : vCt G yX2_moment cX2_moment 1 (some .int) 0 [.ref (A (7, 0))] A (w g r) (fun v A2 h2 => v = some (.int (V_X2_moment g)) ∧ A2 = A ∧ h2 = w g r) (vNoX) 0 0 := by
  refine v_of hG (by decide +kernel) (Nat.le_of_ble_eq_true rfl) (lv := [(0, .ref (A (7, 0)))]) rfl (fun X C hnx => ?_)
  have C : vC G X cX2_moment 1 RX2 (some .int) "moment" 0 0 0 := C
  refine v_aload_n (pc := 0) C dX2_moment_0 0 rfl rfl ?_
  refine v_get (pc := 1) C (7, 0) (v := .int ((g 11 0 0))) ck_7 rfl 3 (by decide) inX2 wd_133 rfl rfl dX2_moment_1 ?_
  exact v_iret (pc := 4) C (by decide) (by decide) dX2_moment_4 ⟨(congrArg (fun q => some (Value.int q)) (by show _ = _; rw [V_X2_moment])), rfl, rfl⟩
def V_X2_isShared (g : vS) (a : Int32) (b : Int32) (c : Int32) : Int32 := (if ((a * 6) + b) < 0 then 0 else (if 30 ≤ ((a * 6) + b) then 0 else (if (g 87 (((a * 6) + b)).toNatClampNeg 0) ≤ c then 0 else 1)))
theorem B_X2_isShared {g : vS} {a : Int32} {b : Int32} {c : Int32} : V_X2_isShared g a b c = 0 ∨ V_X2_isShared g a b c = 1 := by
  unfold V_X2_isShared
  (repeat' split) <;> first | exact Or.inl rfl | exact Or.inr rfl
set_option maxHeartbeats 4000000 in
set_option maxRecDepth 100000 in
theorem c_X2_isShared {G : vG} (hG : G.1.stackTraces = false) {A : vN → Nat} {g : vS} {r : vH} (a : Int32) (b : Int32) (c : Int32)  : vCt G yX2_isShared cX2_isShared 5 (some .boolean) 0 [.ref (A (7, 0)), .int (a), .int (b), .int (c)] A (w g r) (fun v A2 h2 => v = some (.int (V_X2_isShared g a b c)) ∧ A2 = A ∧ h2 = w g r) (vNoX) 0 0 := by
  refine v_of hG (by decide +kernel) (Nat.le_of_ble_eq_true rfl) (lv := [(0, .ref (A (7, 0))), (1, .int (a)), (2, .int (b)), (3, .int (c))]) rfl (fun X C hnx => ?_)
  have C : vC G X cX2_isShared 5 RX2 (some .boolean) "isShared" 0 0 0 := C
  refine v_iload_n (pc := 0) C dX2_isShared_0 1 rfl rfl ?_
  refine v_bipush (v := 6) (pc := 1) C dX2_isShared_1 (by decide) ?_
  refine v_imul (pc := 3) C dX2_isShared_3 ?_
  refine v_iload_n (pc := 4) C dX2_isShared_4 2 rfl rfl ?_
  refine v_iadd (pc := 5) C dX2_isShared_5 ?_
  refine v_istore (lv2 := [(4, .int (((a * 6) + b))), (0, .ref (A (7, 0))), (1, .int (a)), (2, .int (b)), (3, .int (c))]) (pc := 6) C dX2_isShared_6 (by decide) rfl ?_
  refine v_iload (pc := 8) C dX2_isShared_8 0 rfl ?_
  refine v_if_lt (pc := 10) (tgt := 38) C dX2_isShared_10 (by decide) (fun c_1 => ?_) (fun c_1 => ?_)
  · skip
    refine v_iconst (v := 0) (pc := 38) C dX2_isShared_38 rfl ?_
    exact v_zret (pc := 39) C rfl (by decide) (by decide) dX2_isShared_39 ⟨(congrArg (fun q => some (Value.int q)) (by show _ = _; rw [V_X2_isShared, if_pos c_1])), rfl, rfl⟩
  · skip
    refine v_iload (pc := 13) C dX2_isShared_13 0 rfl ?_
    refine v_aload_n (pc := 15) C dX2_isShared_15 1 rfl rfl ?_
    refine v_get (pc := 16) C (7, 0) (v := .ref (A (10, 0))) ck_7 rfl 2 (by decide) inX2 wd_132 rfl rfl dX2_isShared_16 ?_
    refine v_alen (pc := 19) C (10, 0) (v := 30) ck_10 rfl (by decide) dX2_isShared_19 ?_
    refine v_icmp_ge (pc := 20) (tgt := 38) C dX2_isShared_20 (by decide) (fun c_2 => ?_) (fun c_2 => ?_)
    · skip
      refine v_iconst (v := 0) (pc := 38) C dX2_isShared_38 rfl ?_
      exact v_zret (pc := 39) C rfl (by decide) (by decide) dX2_isShared_39 ⟨(congrArg (fun q => some (Value.int q)) (by show _ = _; rw [V_X2_isShared, if_neg c_1, if_pos c_2])), rfl, rfl⟩
    · skip
      refine v_iload_n (pc := 23) C dX2_isShared_23 4 rfl rfl ?_
      refine v_aload_n (pc := 24) C dX2_isShared_24 1 rfl rfl ?_
      refine v_get (pc := 25) C (7, 0) (v := .ref (A (10, 0))) ck_7 rfl 2 (by decide) inX2 wd_132 rfl rfl dX2_isShared_25 ?_
      refine v_iload (pc := 28) C dX2_isShared_28 0 rfl ?_
      refine v_iald (pc := 30) C (10, 0) (v := (g 87 (((a * 6) + b)).toNatClampNeg 0)) ck_10 (by (try simp only [Int32.le_iff_toInt_le, Int32.lt_iff_toInt_lt, ← Int32.toInt_inj, vp_in_iff, Int32.reduceToInt] at c_1 c_2 ⊢) <;> omega) rfl dX2_isShared_30 ?_
      refine v_icmp_ge (pc := 31) (tgt := 38) C dX2_isShared_31 (by decide) (fun c_3 => ?_) (fun c_3 => ?_)
      · skip
        refine v_iconst (v := 0) (pc := 38) C dX2_isShared_38 rfl ?_
        exact v_zret (pc := 39) C rfl (by decide) (by decide) dX2_isShared_39 ⟨(congrArg (fun q => some (Value.int q)) (by show _ = _; rw [V_X2_isShared, if_neg c_1, if_neg c_2, if_pos c_3])), rfl, rfl⟩
      · skip
        refine v_iconst (v := 1) (pc := 34) C dX2_isShared_34 rfl ?_
        refine v_goto (tgt := 39) (pc := 35) C dX2_isShared_35 (by decide) ?_
        exact v_zret (pc := 39) C rfl (by decide) (by decide) dX2_isShared_39 ⟨(congrArg (fun q => some (Value.int q)) (by show _ = _; rw [V_X2_isShared, if_neg c_1, if_neg c_2, if_neg c_3])), rfl, rfl⟩
def SL_X2_replay_26 (g : vS)  : Nat → Nat → vS → vS
  | 0, _, q9 => q9
  | n + 1, i_26, q_26 => (if (g 11 0 0) ≤ nI i_26 then q_26 else (if 517 ≤ nI i_26 then q_26 else (if (g 85 i_26 0) < 0 then (SL_X2_replay_26 g n (i_26 + 1) q_26) else (if 30 ≤ (g 85 i_26 0) then (SL_X2_replay_26 g n (i_26 + 1) q_26) else (if (g 86 i_26 0) = 0 then (SL_X2_replay_26 g n (i_26 + 1) (s3 q_26 87 ((g 85 i_26 0)).toNatClampNeg 0 (nI (i_26 + 1)))) else (SL_X2_replay_26 g n (i_26 + 1) (s3 q_26 87 ((g 85 i_26 0)).toNatClampNeg 0 (2147483647))))))))
def SL_X2_replay_2 (g : vS)  : Nat → Nat → vS → vS
  | 0, _, q9 => q9
  | n + 1, i_2, q_2 => (if 30 ≤ nI i_2 then (SL_X2_replay_26 g (517 + 1) 0 q_2) else (SL_X2_replay_2 g n (i_2 + 1) (s3 q_2 87 i_2 0 (0))))
def S_X2_replay (g : vS)  : vS := (SL_X2_replay_2 g (30 + 1) 0 g)
theorem FL_X2_replay_26 {g : vS}  {c i j : Nat} (h87 : c ≠ 87) : ∀ (n : Nat) (a0 : Nat) (a1 : vS), a1 c i j = g c i j → SL_X2_replay_26 g n a0 a1 c i j = g c i j := by
  intro n
  induction n with
  | zero => intro a0 a1 hq9; exact hq9
  | succ n ih =>
    intro a0 a1 hq9
    simp only [SL_X2_replay_26]
    (repeat' split) <;> first | rfl | exact hq9 | (apply ih; first | exact hq9 | rfl | trivial | ((simp only [s3_k h87]) <;> first | done | exact hq9 | rfl)) | ((simp only [s3_k h87]) <;> first | done | exact hq9 | rfl)
theorem FL_X2_replay_2 {g : vS}  {c i j : Nat} (h87 : c ≠ 87) : ∀ (n : Nat) (a0 : Nat) (a1 : vS), a1 c i j = g c i j → SL_X2_replay_2 g n a0 a1 c i j = g c i j := by
  intro n
  induction n with
  | zero => intro a0 a1 hq9; exact hq9
  | succ n ih =>
    intro a0 a1 hq9
    simp only [SL_X2_replay_2]
    (repeat' split) <;> first | rfl | exact hq9 | (apply ih; first | exact hq9 | rfl | trivial | ((simp only [s3_k h87]) <;> first | done | exact hq9 | rfl)) | (apply FL_X2_replay_26 h87; first | exact hq9 | rfl | ((try simp only [s3_k h87]) <;> first | exact hq9 | rfl)) | ((simp only [s3_k h87]) <;> first | done | exact hq9 | rfl)
theorem F_X2_replay {g : vS}  {c i j : Nat} (h87 : c ≠ 87) : S_X2_replay g c i j = g c i j := by
  unfold S_X2_replay
  (repeat' split) <;> first | rfl | (apply FL_X2_replay_26 h87; first | rfl | trivial | ((simp only [s3_k h87]) <;> first | done | rfl)) | (apply FL_X2_replay_2 h87; first | rfl | trivial | ((simp only [s3_k h87]) <;> first | done | rfl)) | ((simp only [s3_k h87]) <;> first | done | rfl)
set_option maxHeartbeats 4000000 in
set_option maxRecDepth 100000 in
theorem c_X2_replay {G : vG} (hG : G.1.stackTraces = false) {A : vN → Nat} {g : vS} {r : vH}   : vCt G yX2_replay cX2_replay 3 none 0 [.ref (A (7, 0))] A (w g r) (fun v A2 h2 => v = none ∧ A2 = A ∧ h2 = w (S_X2_replay g) r) (vNoX) 0 0 := by
  refine v_of hG (by decide +kernel) (Nat.le_of_ble_eq_true rfl) (lv := [(0, .ref (A (7, 0)))]) rfl (fun X C hnx => ?_)
  have C : vC G X cX2_replay 3 RX2 none "replay" 0 0 0 := C
  refine v_iconst (v := 0) (pc := 0) C dX2_replay_0 rfl ?_
  refine v_istore_n (lv2 := [(1, .int (0)), (0, .ref (A (7, 0)))]) (pc := 1) C dX2_replay_1 rfl (by decide) rfl ?_
  have L_2 : ∀ (n : Nat) (i_2 : Nat) (q_2 : vS), i_2 ≤ 30 → 30 + 1 ≤ i_2 + n → (∀ (c i j : Nat), c ≠ 87 → q_2 c i j = g c i j) → (S_X2_replay g) = SL_X2_replay_2 g n i_2 q_2 → V G 3 X A (w q_2 r) 0 0 (vM G X (fun v A2 h2 => v = none ∧ A2 = A ∧ h2 = w (S_X2_replay g) r) (vNoX) 0 0) 2 [(1, .int (nI i_2)), (0, .ref (A (7, 0)))] [] := by
    intro n
    induction n with
    | zero => intro i_2 q_2 hi_2 hc_2 hF_2 eS_2; exact absurd hc_2 (by omega)
    | succ n ih =>
      intro i_2 q_2 hi_2 hc_2 hF_2 eS_2
      have hq_2 : (nI i_2).toInt = (i_2 : Int) := nI_toInt (by omega)
      have hr_2 : (nI (i_2 + 1)).toInt = ((i_2 + 1 : Nat) : Int) := nI_toInt (by omega)
      refine v_iload_n (pc := 2) C dX2_replay_2 0 rfl rfl ?_
      refine v_aload_n (pc := 3) C dX2_replay_3 1 rfl rfl ?_
      refine v_get (pc := 4) C (7, 0) (v := .ref (A (10, 0))) ck_7 rfl 2 (by decide) inX2 wd_132 rfl rfl dX2_replay_4 ?_
      refine v_alen (pc := 7) C (10, 0) (v := 30) ck_10 rfl (by decide) dX2_replay_7 ?_
      refine v_icmp_ge (pc := 8) (tgt := 24) C dX2_replay_8 (by decide) (fun c_1 => ?_) (fun c_1 => ?_)
      · skip
        refine v_iconst (v := 0) (pc := 24) C dX2_replay_24 rfl ?_
        refine v_istore_n (lv2 := [(1, .int (0)), (0, .ref (A (7, 0)))]) (pc := 25) C dX2_replay_25 rfl (by decide) rfl ?_
        have L_26 : ∀ (n : Nat) (i_26 : Nat) (q_26 : vS), i_26 ≤ 517 → 517 + 1 ≤ i_26 + n → (∀ (c i j : Nat), c ≠ 87 → q_26 c i j = g c i j) → (S_X2_replay g) = SL_X2_replay_26 g n i_26 q_26 → V G 3 X A (w q_26 r) 0 0 (vM G X (fun v A2 h2 => v = none ∧ A2 = A ∧ h2 = w (S_X2_replay g) r) (vNoX) 0 0) 26 [(1, .int (nI i_26)), (0, .ref (A (7, 0)))] [] := by
          intro n
          induction n with
          | zero => intro i_26 q_26 hi_26 hc_26 hF_26 eS_26; exact absurd hc_26 (by omega)
          | succ n ih =>
            intro i_26 q_26 hi_26 hc_26 hF_26 eS_26
            have hq_26 : (nI i_26).toInt = (i_26 : Int) := nI_toInt (by omega)
            have hr_26 : (nI (i_26 + 1)).toInt = ((i_26 + 1 : Nat) : Int) := nI_toInt (by omega)
            refine v_iload_n (pc := 26) C dX2_replay_26 0 rfl rfl ?_
            refine v_aload_n (pc := 27) C dX2_replay_27 1 rfl rfl ?_
            refine v_get (pc := 28) C (7, 0) (v := .int ((g 11 0 0))) ck_7 rfl 3 (by decide) inX2 wd_133 rfl (congrArg Value.int (hF_26 _ _ _ (by decide))) dX2_replay_28 ?_
            refine v_icmp_ge (pc := 31) (tgt := 101) C dX2_replay_31 (by decide) (fun c_2 => ?_) (fun c_2 => ?_)
            · skip
              exact v_vret (pc := 101) C (by decide) (by decide) dX2_replay_101 ⟨rfl, rfl, (congrArg (fun q => w q r) (by show _ = _; rw [eS_26, SL_X2_replay_26, if_pos c_2]))⟩
            · skip
              refine v_iload_n (pc := 34) C dX2_replay_34 0 rfl rfl ?_
              refine v_aload_n (pc := 35) C dX2_replay_35 1 rfl rfl ?_
              refine v_get (pc := 36) C (7, 0) (v := .ref (A (8, 0))) ck_7 rfl 0 (by decide) inX2 wd_130 rfl rfl dX2_replay_36 ?_
              refine v_alen (pc := 39) C (8, 0) (v := 517) ck_8 rfl (by decide) dX2_replay_39 ?_
              refine v_icmp_ge (pc := 40) (tgt := 101) C dX2_replay_40 (by decide) (fun c_3 => ?_) (fun c_3 => ?_)
              · skip
                exact v_vret (pc := 101) C (by decide) (by decide) dX2_replay_101 ⟨rfl, rfl, (congrArg (fun q => w q r) (by show _ = _; rw [eS_26, SL_X2_replay_26, if_neg c_2, if_pos c_3]))⟩
              · skip
                refine v_iload_n (pc := 43) C dX2_replay_43 0 rfl rfl ?_
                refine v_aload_n (pc := 44) C dX2_replay_44 1 rfl rfl ?_
                refine v_get (pc := 45) C (7, 0) (v := .ref (A (9, 0))) ck_7 rfl 1 (by decide) inX2 wd_131 rfl rfl dX2_replay_45 ?_
                refine v_alen (pc := 48) C (9, 0) (v := 517) ck_9 rfl (by decide) dX2_replay_48 ?_
                refine v_icmp_ge (pc := 49) (tgt := 101) C dX2_replay_49 (by decide) (fun c_4 => ?_) (fun c_4 => ?_)
                · skip
                  exact absurd c_4 c_3
                · skip
                  refine v_aload_n (pc := 52) C dX2_replay_52 1 rfl rfl ?_
                  refine v_get (pc := 53) C (7, 0) (v := .ref (A (8, 0))) ck_7 rfl 0 (by decide) inX2 wd_130 rfl rfl dX2_replay_53 ?_
                  refine v_iload_n (pc := 56) C dX2_replay_56 0 rfl rfl ?_
                  refine v_iald (pc := 57) C (8, 0) (v := (g 85 i_26 0)) ck_8 (by (try simp only [Int32.le_iff_toInt_le, Int32.lt_iff_toInt_lt, ← Int32.toInt_inj, vp_in_iff, Int32.reduceToInt] at c_1 c_2 c_3 c_4 hq_2 hr_2 hq_26 hr_26 ⊢) <;> omega) ((congrArg (fun k => q_26 85 k 0) (show (nI i_26 : Int32).toNatClampNeg = i_26 from (nI_clamp (by omega)))).trans (hF_26 _ _ _ (by decide))) dX2_replay_57 ?_
                  refine v_istore_n (lv2 := [(2, .int ((g 85 i_26 0))), (1, .int (nI i_26)), (0, .ref (A (7, 0)))]) (pc := 58) C dX2_replay_58 rfl (by decide) rfl ?_
                  refine v_iload_n (pc := 59) C dX2_replay_59 0 rfl rfl ?_
                  refine v_if_lt (pc := 60) (tgt := 95) C dX2_replay_60 (by decide) (fun c_5 => ?_) (fun c_5 => ?_)
                  · skip
                    refine v_iinc (v := nI (i_26 + 1)) (lv2 := [(1, .int (nI (i_26 + 1))), (2, .int ((g 85 i_26 0))), (0, .ref (A (7, 0)))]) (pc := 95) C dX2_replay_95 1 rfl (nI_1 _) (by decide) rfl ?_
                    refine v_goto (tgt := 26) (pc := 98) C dX2_replay_98 (by decide) ?_
                    refine v_lv (lv2 := [(1, .int (nI (i_26 + 1))), (0, .ref (A (7, 0)))]) [0, 2] rfl ?_
                    exact ih (i_26 + 1) q_26 (by (try simp only [Int32.le_iff_toInt_le, Int32.lt_iff_toInt_lt, ← Int32.toInt_inj, vp_in_iff, Int32.reduceToInt] at c_1 c_2 c_3 c_4 c_5 hq_2 hr_2 hq_26 hr_26 ⊢) <;> omega) (by omega) (fun c i j h87 => hF_26 c i j h87) (by rw [eS_26, SL_X2_replay_26, if_neg c_2, if_neg c_3, if_pos c_5])
                  · skip
                    refine v_iload_n (pc := 63) C dX2_replay_63 0 rfl rfl ?_
                    refine v_aload_n (pc := 64) C dX2_replay_64 2 rfl rfl ?_
                    refine v_get (pc := 65) C (7, 0) (v := .ref (A (10, 0))) ck_7 rfl 2 (by decide) inX2 wd_132 rfl rfl dX2_replay_65 ?_
                    refine v_alen (pc := 68) C (10, 0) (v := 30) ck_10 rfl (by decide) dX2_replay_68 ?_
                    refine v_icmp_ge (pc := 69) (tgt := 95) C dX2_replay_69 (by decide) (fun c_6 => ?_) (fun c_6 => ?_)
                    · skip
                      refine v_iinc (v := nI (i_26 + 1)) (lv2 := [(1, .int (nI (i_26 + 1))), (2, .int ((g 85 i_26 0))), (0, .ref (A (7, 0)))]) (pc := 95) C dX2_replay_95 1 rfl (nI_1 _) (by decide) rfl ?_
                      refine v_goto (tgt := 26) (pc := 98) C dX2_replay_98 (by decide) ?_
                      refine v_lv (lv2 := [(1, .int (nI (i_26 + 1))), (0, .ref (A (7, 0)))]) [0, 2] rfl ?_
                      exact ih (i_26 + 1) q_26 (by (try simp only [Int32.le_iff_toInt_le, Int32.lt_iff_toInt_lt, ← Int32.toInt_inj, vp_in_iff, Int32.reduceToInt] at c_1 c_2 c_3 c_4 c_5 c_6 hq_2 hr_2 hq_26 hr_26 ⊢) <;> omega) (by omega) (fun c i j h87 => hF_26 c i j h87) (by rw [eS_26, SL_X2_replay_26, if_neg c_2, if_neg c_3, if_neg c_5, if_pos c_6])
                    · skip
                      refine v_aload_n (pc := 72) C dX2_replay_72 2 rfl rfl ?_
                      refine v_get (pc := 73) C (7, 0) (v := .ref (A (10, 0))) ck_7 rfl 2 (by decide) inX2 wd_132 rfl rfl dX2_replay_73 ?_
                      refine v_iload_n (pc := 76) C dX2_replay_76 0 rfl rfl ?_
                      refine v_aload_n (pc := 77) C dX2_replay_77 2 rfl rfl ?_
                      refine v_get (pc := 78) C (7, 0) (v := .ref (A (9, 0))) ck_7 rfl 1 (by decide) inX2 wd_131 rfl rfl dX2_replay_78 ?_
                      refine v_iload_n (pc := 81) C dX2_replay_81 1 rfl rfl ?_
                      refine v_zald (pc := 82) C (9, 0) (v := (g 86 i_26 0)) ck_9 (by (try simp only [Int32.le_iff_toInt_le, Int32.lt_iff_toInt_lt, ← Int32.toInt_inj, vp_in_iff, Int32.reduceToInt] at c_1 c_2 c_3 c_4 c_5 c_6 hq_2 hr_2 hq_26 hr_26 ⊢) <;> omega) ((congrArg (fun k => q_26 86 k 0) (show (nI i_26 : Int32).toNatClampNeg = i_26 from (nI_clamp (by omega)))).trans (hF_26 _ _ _ (by decide))) dX2_replay_82 ?_
                      refine v_if_eq (pc := 83) (tgt := 91) C dX2_replay_83 (by decide) (fun c_7 => ?_) (fun c_7 => ?_)
                      · skip
                        refine v_iload_n (pc := 91) C dX2_replay_91 1 rfl rfl ?_
                        refine v_iconst (v := 1) (pc := 92) C dX2_replay_92 rfl ?_
                        refine v_iadd (pc := 93) C dX2_replay_93 ?_
                        refine v_nm (y := .int (nI (i_26 + 1))) (congrArg Value.int (nI_1 _)) ?_
                        refine v_iast (pc := 94) C (10, 0) (x := nI (i_26 + 1)) ck_10 (by (try simp only [Int32.le_iff_toInt_le, Int32.lt_iff_toInt_lt, ← Int32.toInt_inj, vp_in_iff, Int32.reduceToInt] at c_1 c_2 c_3 c_4 c_5 c_6 c_7 hq_2 hr_2 hq_26 hr_26 ⊢) <;> omega) dX2_replay_94 ?_
                        refine v_h (h2 := (w (s3 q_26 87 ((g 85 i_26 0)).toNatClampNeg 0 (nI (i_26 + 1))) r)) (u_10_a) ?_
                        refine v_iinc (v := nI (i_26 + 1)) (lv2 := [(1, .int (nI (i_26 + 1))), (2, .int ((g 85 i_26 0))), (0, .ref (A (7, 0)))]) (pc := 95) C dX2_replay_95 1 rfl (nI_1 _) (by decide) rfl ?_
                        refine v_goto (tgt := 26) (pc := 98) C dX2_replay_98 (by decide) ?_
                        refine v_lv (lv2 := [(1, .int (nI (i_26 + 1))), (0, .ref (A (7, 0)))]) [0, 2] rfl ?_
                        exact ih (i_26 + 1) (s3 q_26 87 ((g 85 i_26 0)).toNatClampNeg 0 (nI (i_26 + 1))) (by (try simp only [Int32.le_iff_toInt_le, Int32.lt_iff_toInt_lt, ← Int32.toInt_inj, vp_in_iff, Int32.reduceToInt] at c_1 c_2 c_3 c_4 c_5 c_6 c_7 hq_2 hr_2 hq_26 hr_26 ⊢) <;> omega) (by omega) (fun c i j h87 => (s3_k h87).trans (hF_26 c i j h87)) (by rw [eS_26, SL_X2_replay_26, if_neg c_2, if_neg c_3, if_neg c_5, if_neg c_6, if_pos c_7])
                      · skip
                        refine v_ldc (v := 2147483647) (pc := 86) C dX2_replay_86 wd_297 ?_
                        refine v_goto (tgt := 94) (pc := 88) C dX2_replay_88 (by decide) ?_
                        refine v_iast (pc := 94) C (10, 0) (x := 2147483647) ck_10 (by (try simp only [Int32.le_iff_toInt_le, Int32.lt_iff_toInt_lt, ← Int32.toInt_inj, vp_in_iff, Int32.reduceToInt] at c_1 c_2 c_3 c_4 c_5 c_6 c_7 hq_2 hr_2 hq_26 hr_26 ⊢) <;> omega) dX2_replay_94 ?_
                        refine v_h (h2 := (w (s3 q_26 87 ((g 85 i_26 0)).toNatClampNeg 0 (2147483647)) r)) (u_10_a) ?_
                        refine v_iinc (v := nI (i_26 + 1)) (lv2 := [(1, .int (nI (i_26 + 1))), (2, .int ((g 85 i_26 0))), (0, .ref (A (7, 0)))]) (pc := 95) C dX2_replay_95 1 rfl (nI_1 _) (by decide) rfl ?_
                        refine v_goto (tgt := 26) (pc := 98) C dX2_replay_98 (by decide) ?_
                        refine v_lv (lv2 := [(1, .int (nI (i_26 + 1))), (0, .ref (A (7, 0)))]) [0, 2] rfl ?_
                        exact ih (i_26 + 1) (s3 q_26 87 ((g 85 i_26 0)).toNatClampNeg 0 (2147483647)) (by (try simp only [Int32.le_iff_toInt_le, Int32.lt_iff_toInt_lt, ← Int32.toInt_inj, vp_in_iff, Int32.reduceToInt] at c_1 c_2 c_3 c_4 c_5 c_6 c_7 hq_2 hr_2 hq_26 hr_26 ⊢) <;> omega) (by omega) (fun c i j h87 => (s3_k h87).trans (hF_26 c i j h87)) (by rw [eS_26, SL_X2_replay_26, if_neg c_2, if_neg c_3, if_neg c_5, if_neg c_6, if_neg c_7])
        exact L_26 (517 + 1) 0 q_2 (by omega) (by omega) (fun c i j h87 => hF_2 c i j h87) (by rw [eS_2, SL_X2_replay_2, if_pos c_1])
      · skip
        refine v_aload_n (pc := 11) C dX2_replay_11 1 rfl rfl ?_
        refine v_get (pc := 12) C (7, 0) (v := .ref (A (10, 0))) ck_7 rfl 2 (by decide) inX2 wd_132 rfl rfl dX2_replay_12 ?_
        refine v_iload_n (pc := 15) C dX2_replay_15 0 rfl rfl ?_
        refine v_iconst (v := 0) (pc := 16) C dX2_replay_16 rfl ?_
        refine v_iast (pc := 17) C (10, 0) (x := 0) ck_10 (by (try simp only [Int32.le_iff_toInt_le, Int32.lt_iff_toInt_lt, ← Int32.toInt_inj, vp_in_iff, Int32.reduceToInt] at c_1 hq_2 hr_2 ⊢) <;> omega) dX2_replay_17 ?_
        rw [show (nI i_2 : Int32).toNatClampNeg = i_2 from (nI_clamp (by omega))]
        refine v_h (h2 := (w (s3 q_2 87 i_2 0 (0)) r)) (u_10_a) ?_
        refine v_iinc (v := nI (i_2 + 1)) (lv2 := [(1, .int (nI (i_2 + 1))), (0, .ref (A (7, 0)))]) (pc := 18) C dX2_replay_18 0 rfl (nI_1 _) (by decide) rfl ?_
        refine v_goto (tgt := 2) (pc := 21) C dX2_replay_21 (by decide) ?_
        refine v_lv (lv2 := [(1, .int (nI (i_2 + 1))), (0, .ref (A (7, 0)))]) [0, 1] rfl ?_
        exact ih (i_2 + 1) (s3 q_2 87 i_2 0 (0)) (by (try simp only [Int32.le_iff_toInt_le, Int32.lt_iff_toInt_lt, ← Int32.toInt_inj, vp_in_iff, Int32.reduceToInt] at c_1 hq_2 hr_2 ⊢) <;> omega) (by omega) (fun c i j h87 => (s3_k h87).trans (hF_2 c i j h87)) (by rw [eS_2, SL_X2_replay_2, if_neg c_1])
  exact L_2 (30 + 1) 0 g (by omega) (by omega) (fun c i j h87 => rfl) (by rw [S_X2_replay])
def VL_X5_firstOnes_4 (g : vS) (x : Int32) : Nat → Nat → Int32 → Int32
  | 0, _, _ => 0
  | n + 1, i_4, x_4_1 => (if 12 ≤ nI i_4 then x_4_1 else (if x ≤ (2 * x_4_1) then x_4_1 else (VL_X5_firstOnes_4 g x n (i_4 + 1) ((x_4_1 * 2)))))
def V_X5_firstOnes (g : vS) (x : Int32) : Int32 := (VL_X5_firstOnes_4 g x (12 + 1) 0 (1))
set_option maxHeartbeats 4000000 in
set_option maxRecDepth 100000 in
theorem c_X5_firstOnes {G : vG} (hG : G.1.stackTraces = false) {A : vN → Nat} {g : vS} {r : vH} (x : Int32)  : vCt G yX5_firstOnes cX5_firstOnes 3 (some .int) 0 [.int (x)] A (w g r) (fun v A2 h2 => v = some (.int (V_X5_firstOnes g x)) ∧ A2 = A ∧ h2 = w g r) (vNoX) 0 0 := by
  refine v_of hG (by decide +kernel) (Nat.le_of_ble_eq_true rfl) (lv := [(0, .int (x))]) rfl (fun X C hnx => ?_)
  have C : vC G X cX5_firstOnes 3 RX5 (some .int) "firstOnes" 0 0 0 := C
  refine v_iconst (v := 1) (pc := 0) C dX5_firstOnes_0 rfl ?_
  refine v_istore_n (lv2 := [(1, .int (1)), (0, .int (x))]) (pc := 1) C dX5_firstOnes_1 rfl (by decide) rfl ?_
  refine v_iconst (v := 0) (pc := 2) C dX5_firstOnes_2 rfl ?_
  refine v_istore_n (lv2 := [(2, .int (0)), (1, .int (1)), (0, .int (x))]) (pc := 3) C dX5_firstOnes_3 rfl (by decide) rfl ?_
  have L_4 : ∀ (n : Nat) (i_4 : Nat) (x_4_1 : Int32), i_4 ≤ 12 → 12 + 1 ≤ i_4 + n → (V_X5_firstOnes g x) = VL_X5_firstOnes_4 g x n i_4 x_4_1 → V G 3 X A (w g r) 0 0 (vM G X (fun v A2 h2 => v = some (.int (V_X5_firstOnes g x)) ∧ A2 = A ∧ h2 = w g r) (vNoX) 0 0) 4 [(2, .int (nI i_4)), (1, .int (x_4_1)), (0, .int (x))] [] := by
    intro n
    induction n with
    | zero => intro i_4 x_4_1 hi_4 hc_4 eV_4; exact absurd hc_4 (by omega)
    | succ n ih =>
      intro i_4 x_4_1 hi_4 hc_4 eV_4
      have hq_4 : (nI i_4).toInt = (i_4 : Int) := nI_toInt (by omega)
      have hr_4 : (nI (i_4 + 1)).toInt = ((i_4 + 1 : Nat) : Int) := nI_toInt (by omega)
      refine v_iload_n (pc := 4) C dX5_firstOnes_4 0 rfl rfl ?_
      refine v_bipush (v := 12) (pc := 5) C dX5_firstOnes_5 (by decide) ?_
      refine v_icmp_ge (pc := 7) (tgt := 27) C dX5_firstOnes_7 (by decide) (fun c_1 => ?_) (fun c_1 => ?_)
      · skip
        refine v_iload_n (pc := 27) C dX5_firstOnes_27 1 rfl rfl ?_
        exact v_iret (pc := 28) C (by decide) (by decide) dX5_firstOnes_28 ⟨(congrArg (fun q => some (Value.int q)) (by show _ = _; rw [eV_4, VL_X5_firstOnes_4, if_pos c_1])), rfl, rfl⟩
      · skip
        refine v_iconst (v := 2) (pc := 10) C dX5_firstOnes_10 rfl ?_
        refine v_iload_n (pc := 11) C dX5_firstOnes_11 1 rfl rfl ?_
        refine v_imul (pc := 12) C dX5_firstOnes_12 ?_
        refine v_iload_n (pc := 13) C dX5_firstOnes_13 2 rfl rfl ?_
        refine v_icmp_ge (pc := 14) (tgt := 27) C dX5_firstOnes_14 (by decide) (fun c_2 => ?_) (fun c_2 => ?_)
        · skip
          refine v_iload_n (pc := 27) C dX5_firstOnes_27 1 rfl rfl ?_
          exact v_iret (pc := 28) C (by decide) (by decide) dX5_firstOnes_28 ⟨(congrArg (fun q => some (Value.int q)) (by show _ = _; rw [eV_4, VL_X5_firstOnes_4, if_neg c_1, if_pos c_2])), rfl, rfl⟩
        · skip
          refine v_iload_n (pc := 17) C dX5_firstOnes_17 1 rfl rfl ?_
          refine v_iconst (v := 2) (pc := 18) C dX5_firstOnes_18 rfl ?_
          refine v_imul (pc := 19) C dX5_firstOnes_19 ?_
          refine v_istore_n (lv2 := [(1, .int ((x_4_1 * 2))), (2, .int (nI i_4)), (0, .int (x))]) (pc := 20) C dX5_firstOnes_20 rfl (by decide) rfl ?_
          refine v_iinc (v := nI (i_4 + 1)) (lv2 := [(2, .int (nI (i_4 + 1))), (1, .int ((x_4_1 * 2))), (0, .int (x))]) (pc := 21) C dX5_firstOnes_21 1 rfl (nI_1 _) (by decide) rfl ?_
          refine v_goto (tgt := 4) (pc := 24) C dX5_firstOnes_24 (by decide) ?_
          refine v_lv (lv2 := [(2, .int (nI (i_4 + 1))), (1, .int ((x_4_1 * 2))), (0, .int (x))]) [0, 1, 2] rfl ?_
          exact ih (i_4 + 1) ((x_4_1 * 2)) (by (try simp only [Int32.le_iff_toInt_le, Int32.lt_iff_toInt_lt, ← Int32.toInt_inj, vp_in_iff, Int32.reduceToInt] at c_1 c_2 hq_4 hr_4 ⊢) <;> omega) (by omega)  (by rw [eV_4, VL_X5_firstOnes_4, if_neg c_1, if_neg c_2])
  exact L_4 (12 + 1) 0 (1) (by omega) (by omega)  (by rw [V_X5_firstOnes])
def V_X7_keptCount (g : vS)  : Int32 := (g 17 0 0)
set_option maxHeartbeats 4000000 in
set_option maxRecDepth 100000 in
theorem c_X7_keptCount {G : vG} (hG : G.1.stackTraces = false) {A : vN → Nat} {g : vS} {r : vH}   : vCt G yX7_keptCount cX7_keptCount 1 (some .int) 0 [.ref (A (18, 0))] A (w g r) (fun v A2 h2 => v = some (.int (V_X7_keptCount g)) ∧ A2 = A ∧ h2 = w g r) (vNoX) 0 0 := by
  refine v_of hG (by decide +kernel) (Nat.le_of_ble_eq_true rfl) (lv := [(0, .ref (A (18, 0)))]) rfl (fun X C hnx => ?_)
  have C : vC G X cX7_keptCount 1 RX7 (some .int) "keptCount" 0 0 0 := C
  refine v_aload_n (pc := 0) C dX7_keptCount_0 0 rfl rfl ?_
  refine v_get (pc := 1) C (18, 0) (v := .int ((g 17 0 0))) ck_18 rfl 2 (by decide) inX7 wd_212 rfl rfl dX7_keptCount_1 ?_
  exact v_iret (pc := 4) C (by decide) (by decide) dX7_keptCount_4 ⟨(congrArg (fun q => some (Value.int q)) (by show _ = _; rw [V_X7_keptCount])), rfl, rfl⟩
def VL_X7_clear_7 (g : vS)  : Nat → Nat → vS → Int32
  | 0, _, _ => 0
  | n + 1, i_7, q_7 => (if 9 ≤ nI i_7 then (g 17 0 0) else (VL_X7_clear_7 g n (i_7 + 1) (s3 q_7 82 i_7 0 (0))))
def SL_X7_clear_7 (g : vS)  : Nat → Nat → vS → vS
  | 0, _, q9 => q9
  | n + 1, i_7, q_7 => (if 9 ≤ nI i_7 then (s3 q_7 17 0 0 (0)) else (SL_X7_clear_7 g n (i_7 + 1) (s3 q_7 82 i_7 0 (0))))
def V_X7_clear (g : vS)  : Int32 := (VL_X7_clear_7 g (9 + 1) 1 g)
def S_X7_clear (g : vS)  : vS := (SL_X7_clear_7 g (9 + 1) 1 g)
theorem FL_X7_clear_7 {g : vS}  {c i j : Nat} (h17 : c ≠ 17) (h82 : c ≠ 82) : ∀ (n : Nat) (a0 : Nat) (a1 : vS), a1 c i j = g c i j → SL_X7_clear_7 g n a0 a1 c i j = g c i j := by
  intro n
  induction n with
  | zero => intro a0 a1 hq9; exact hq9
  | succ n ih =>
    intro a0 a1 hq9
    simp only [SL_X7_clear_7]
    (repeat' split) <;> first | rfl | exact hq9 | (apply ih; first | exact hq9 | rfl | trivial | ((simp only [s3_k h17, s3_k h82]) <;> first | done | exact hq9 | rfl)) | ((simp only [s3_k h17, s3_k h82]) <;> first | done | exact hq9 | rfl)
theorem F_X7_clear {g : vS}  {c i j : Nat} (h17 : c ≠ 17) (h82 : c ≠ 82) : S_X7_clear g c i j = g c i j := by
  unfold S_X7_clear
  (repeat' split) <;> first | rfl | (apply FL_X7_clear_7 h17 h82; first | rfl | trivial | ((simp only [s3_k h17, s3_k h82]) <;> first | done | rfl)) | ((simp only [s3_k h17, s3_k h82]) <;> first | done | rfl)
set_option maxHeartbeats 4000000 in
set_option maxRecDepth 100000 in
theorem c_X7_clear {G : vG} (hG : G.1.stackTraces = false) {A : vN → Nat} {g : vS} {r : vH}   : vCt G yX7_clear cX7_clear 3 (some .int) 0 [.ref (A (18, 0))] A (w g r) (fun v A2 h2 => v = some (.int (V_X7_clear g)) ∧ A2 = A ∧ h2 = w (S_X7_clear g) r) (vNoX) 0 0 := by
  refine v_of hG (by decide +kernel) (Nat.le_of_ble_eq_true rfl) (lv := [(0, .ref (A (18, 0)))]) rfl (fun X C hnx => ?_)
  have C : vC G X cX7_clear 3 RX7 (some .int) "clear" 0 0 0 := C
  refine v_aload_n (pc := 0) C dX7_clear_0 0 rfl rfl ?_
  refine v_get (pc := 1) C (18, 0) (v := .int ((g 17 0 0))) ck_18 rfl 2 (by decide) inX7 wd_212 rfl rfl dX7_clear_1 ?_
  refine v_istore_n (lv2 := [(1, .int ((g 17 0 0))), (0, .ref (A (18, 0)))]) (pc := 4) C dX7_clear_4 rfl (by decide) rfl ?_
  refine v_iconst (v := 1) (pc := 5) C dX7_clear_5 rfl ?_
  refine v_istore_n (lv2 := [(2, .int (1)), (1, .int ((g 17 0 0))), (0, .ref (A (18, 0)))]) (pc := 6) C dX7_clear_6 rfl (by decide) rfl ?_
  have L_7 : ∀ (n : Nat) (i_7 : Nat) (q_7 : vS), i_7 ≤ 9 → 9 + 1 ≤ i_7 + n → (∀ (c i j : Nat), c ≠ 82 → q_7 c i j = g c i j) → (V_X7_clear g) = VL_X7_clear_7 g n i_7 q_7 → (S_X7_clear g) = SL_X7_clear_7 g n i_7 q_7 → V G 3 X A (w q_7 r) 0 0 (vM G X (fun v A2 h2 => v = some (.int (V_X7_clear g)) ∧ A2 = A ∧ h2 = w (S_X7_clear g) r) (vNoX) 0 0) 7 [(2, .int (nI i_7)), (1, .int ((g 17 0 0))), (0, .ref (A (18, 0)))] [] := by
    intro n
    induction n with
    | zero => intro i_7 q_7 hi_7 hc_7 hF_7 eV_7 eS_7; exact absurd hc_7 (by omega)
    | succ n ih =>
      intro i_7 q_7 hi_7 hc_7 hF_7 eV_7 eS_7
      have hq_7 : (nI i_7).toInt = (i_7 : Int) := nI_toInt (by omega)
      have hr_7 : (nI (i_7 + 1)).toInt = ((i_7 + 1 : Nat) : Int) := nI_toInt (by omega)
      refine v_iload_n (pc := 7) C dX7_clear_7 0 rfl rfl ?_
      refine v_aload_n (pc := 8) C dX7_clear_8 2 rfl rfl ?_
      refine v_get (pc := 9) C (18, 0) (v := .ref (A (20, 0))) ck_18 rfl 1 (by decide) inX7 wd_211 rfl rfl dX7_clear_9 ?_
      refine v_alen (pc := 12) C (20, 0) (v := 9) ck_20 rfl (by decide) dX7_clear_12 ?_
      refine v_icmp_ge (pc := 13) (tgt := 29) C dX7_clear_13 (by decide) (fun c_1 => ?_) (fun c_1 => ?_)
      · skip
        refine v_aload_n (pc := 29) C dX7_clear_29 2 rfl rfl ?_
        refine v_iconst (v := 0) (pc := 30) C dX7_clear_30 rfl ?_
        refine v_put (pc := 31) C (18, 0) (v := .int (0)) ck_18 rfl 2 (by decide) inX7 tyX7 tyX7_ok nmX7 wd_212 rfl (.inl (Value.int (0))) rfl (ty := tyX7 2) (by decide +kernel) rfl rfl (Nat.le_of_ble_eq_true rfl) dX7_clear_31 ?_
        refine v_h (h2 := (w (s3 q_7 17 0 0 (0)) r)) (u_18_2) ?_
        refine v_iload_n (pc := 34) C dX7_clear_34 1 rfl rfl ?_
        exact v_iret (pc := 35) C (by decide) (by decide) dX7_clear_35 ⟨(congrArg (fun q => some (Value.int q)) (by show _ = _; rw [eV_7, VL_X7_clear_7, if_pos c_1])), rfl, (congrArg (fun q => w q r) (by show _ = _; rw [eS_7, SL_X7_clear_7, if_pos c_1]))⟩
      · skip
        refine v_aload_n (pc := 16) C dX7_clear_16 2 rfl rfl ?_
        refine v_get (pc := 17) C (18, 0) (v := .ref (A (20, 0))) ck_18 rfl 1 (by decide) inX7 wd_211 rfl rfl dX7_clear_17 ?_
        refine v_iload_n (pc := 20) C dX7_clear_20 0 rfl rfl ?_
        refine v_iconst (v := 0) (pc := 21) C dX7_clear_21 rfl ?_
        refine v_zast (pc := 22) C (20, 0) (x := 0) ck_20 (by (try simp only [Int32.le_iff_toInt_le, Int32.lt_iff_toInt_lt, ← Int32.toInt_inj, vp_in_iff, Int32.reduceToInt] at c_1 hq_7 hr_7 ⊢) <;> omega) (by decide) dX7_clear_22 ?_
        rw [show (nI i_7 : Int32).toNatClampNeg = i_7 from (nI_clamp (by omega))]
        refine v_h (h2 := (w (s3 q_7 82 i_7 0 (0)) r)) (u_20_a) ?_
        refine v_iinc (v := nI (i_7 + 1)) (lv2 := [(2, .int (nI (i_7 + 1))), (1, .int ((g 17 0 0))), (0, .ref (A (18, 0)))]) (pc := 23) C dX7_clear_23 0 rfl (nI_1 _) (by decide) rfl ?_
        refine v_goto (tgt := 7) (pc := 26) C dX7_clear_26 (by decide) ?_
        refine v_lv (lv2 := [(2, .int (nI (i_7 + 1))), (1, .int ((g 17 0 0))), (0, .ref (A (18, 0)))]) [0, 1, 2] rfl ?_
        exact ih (i_7 + 1) (s3 q_7 82 i_7 0 (0)) (by (try simp only [Int32.le_iff_toInt_le, Int32.lt_iff_toInt_lt, ← Int32.toInt_inj, vp_in_iff, Int32.reduceToInt] at c_1 hq_7 hr_7 ⊢) <;> omega) (by omega) (fun c i j h82 => (s3_k h82).trans (hF_7 c i j h82)) (by rw [eV_7, VL_X7_clear_7, if_neg c_1]) (by rw [eS_7, SL_X7_clear_7, if_neg c_1])
  exact L_7 (9 + 1) 1 g (by omega) (by omega) (fun c i j h82 => rfl) (by rw [V_X7_clear]) (by rw [S_X7_clear])
def S_X7_keep (g : vS) (x : Int32) (y : Int32) : vS := (if x < 1 then g else (if 9 ≤ x then g else (if (g 82 (x).toNatClampNeg 0) = 0 then (s3 (s3 (s3 g 17 0 0 (((g 17 0 0) + 1))) 82 (x).toNatClampNeg 0 (1)) 83 (x).toNatClampNeg 0 (y)) else (s3 (s3 g 82 (x).toNatClampNeg 0 (1)) 83 (x).toNatClampNeg 0 (y)))))
theorem F_X7_keep {g : vS} {x : Int32} {y : Int32} {c i j : Nat} (h17 : c ≠ 17) (h82 : c ≠ 82) (h83 : c ≠ 83) : S_X7_keep g x y c i j = g c i j := by
  unfold S_X7_keep
  (repeat' split) <;> first | rfl | ((simp only [s3_k h17, s3_k h82, s3_k h83]) <;> first | done | rfl)
set_option maxHeartbeats 4000000 in
set_option maxRecDepth 100000 in
theorem c_X7_keep {G : vG} (hG : G.1.stackTraces = false) {A : vN → Nat} {g : vS} {r : vH} (x : Int32) (y : Int32)  : vCt G yX7_keep cX7_keep 3 none 0 [.ref (A (18, 0)), .int (x), .int (y)] A (w g r) (fun v A2 h2 => v = none ∧ A2 = A ∧ h2 = w (S_X7_keep g x y) r) (vNoX) 0 0 := by
  refine v_of hG (by decide +kernel) (Nat.le_of_ble_eq_true rfl) (lv := [(0, .ref (A (18, 0))), (1, .int (x)), (2, .int (y))]) rfl (fun X C hnx => ?_)
  have C : vC G X cX7_keep 3 RX7 none "keep" 0 0 0 := C
  refine v_iload_n (pc := 0) C dX7_keep_0 1 rfl rfl ?_
  refine v_iconst (v := 1) (pc := 1) C dX7_keep_1 rfl ?_
  refine v_icmp_lt (pc := 2) (tgt := 56) C dX7_keep_2 (by decide) (fun c_1 => ?_) (fun c_1 => ?_)
  · skip
    exact v_vret (pc := 56) C (by decide) (by decide) dX7_keep_56 ⟨rfl, rfl, (congrArg (fun q => w q r) (by show _ = _; rw [S_X7_keep, if_pos c_1]))⟩
  · skip
    refine v_iload_n (pc := 5) C dX7_keep_5 1 rfl rfl ?_
    refine v_aload_n (pc := 6) C dX7_keep_6 0 rfl rfl ?_
    refine v_get (pc := 7) C (18, 0) (v := .ref (A (20, 0))) ck_18 rfl 1 (by decide) inX7 wd_211 rfl rfl dX7_keep_7 ?_
    refine v_alen (pc := 10) C (20, 0) (v := 9) ck_20 rfl (by decide) dX7_keep_10 ?_
    refine v_icmp_ge (pc := 11) (tgt := 56) C dX7_keep_11 (by decide) (fun c_2 => ?_) (fun c_2 => ?_)
    · skip
      exact v_vret (pc := 56) C (by decide) (by decide) dX7_keep_56 ⟨rfl, rfl, (congrArg (fun q => w q r) (by show _ = _; rw [S_X7_keep, if_neg c_1, if_pos c_2]))⟩
    · skip
      refine v_iload_n (pc := 14) C dX7_keep_14 1 rfl rfl ?_
      refine v_aload_n (pc := 15) C dX7_keep_15 0 rfl rfl ?_
      refine v_get (pc := 16) C (18, 0) (v := .ref (A (19, 0))) ck_18 rfl 0 (by decide) inX7 wd_210 rfl rfl dX7_keep_16 ?_
      refine v_alen (pc := 19) C (19, 0) (v := 9) ck_19 rfl (by decide) dX7_keep_19 ?_
      refine v_icmp_ge (pc := 20) (tgt := 56) C dX7_keep_20 (by decide) (fun c_3 => ?_) (fun c_3 => ?_)
      · skip
        exact absurd c_3 c_2
      · skip
        refine v_aload_n (pc := 23) C dX7_keep_23 0 rfl rfl ?_
        refine v_get (pc := 24) C (18, 0) (v := .ref (A (20, 0))) ck_18 rfl 1 (by decide) inX7 wd_211 rfl rfl dX7_keep_24 ?_
        refine v_iload_n (pc := 27) C dX7_keep_27 1 rfl rfl ?_
        refine v_zald (pc := 28) C (20, 0) (v := (g 82 (x).toNatClampNeg 0)) ck_20 (by (try simp only [Int32.le_iff_toInt_le, Int32.lt_iff_toInt_lt, ← Int32.toInt_inj, vp_in_iff, Int32.reduceToInt] at c_1 c_2 c_3 ⊢) <;> omega) rfl dX7_keep_28 ?_
        refine v_if_ne (pc := 29) (tgt := 42) C dX7_keep_29 (by decide) (fun c_4 => ?_) (fun c_4 => ?_)
        · skip
          refine v_aload_n (pc := 42) C dX7_keep_42 0 rfl rfl ?_
          refine v_get (pc := 43) C (18, 0) (v := .ref (A (20, 0))) ck_18 rfl 1 (by decide) inX7 wd_211 rfl rfl dX7_keep_43 ?_
          refine v_iload_n (pc := 46) C dX7_keep_46 1 rfl rfl ?_
          refine v_iconst (v := 1) (pc := 47) C dX7_keep_47 rfl ?_
          refine v_zast (pc := 48) C (20, 0) (x := 1) ck_20 (by (try simp only [Int32.le_iff_toInt_le, Int32.lt_iff_toInt_lt, ← Int32.toInt_inj, vp_in_iff, Int32.reduceToInt] at c_1 c_2 c_3 c_4 ⊢) <;> omega) (by decide) dX7_keep_48 ?_
          refine v_h (h2 := (w (s3 g 82 (x).toNatClampNeg 0 (1)) r)) (u_20_a) ?_
          refine v_aload_n (pc := 49) C dX7_keep_49 0 rfl rfl ?_
          refine v_get (pc := 50) C (18, 0) (v := .ref (A (19, 0))) ck_18 rfl 0 (by decide) inX7 wd_210 rfl rfl dX7_keep_50 ?_
          refine v_iload_n (pc := 53) C dX7_keep_53 1 rfl rfl ?_
          refine v_iload_n (pc := 54) C dX7_keep_54 2 rfl rfl ?_
          refine v_iast (pc := 55) C (19, 0) (x := y) ck_19 (by (try simp only [Int32.le_iff_toInt_le, Int32.lt_iff_toInt_lt, ← Int32.toInt_inj, vp_in_iff, Int32.reduceToInt] at c_1 c_2 c_3 c_4 ⊢) <;> omega) dX7_keep_55 ?_
          refine v_h (h2 := (w (s3 (s3 g 82 (x).toNatClampNeg 0 (1)) 83 (x).toNatClampNeg 0 (y)) r)) (u_19_a) ?_
          exact v_vret (pc := 56) C (by decide) (by decide) dX7_keep_56 ⟨rfl, rfl, (congrArg (fun q => w q r) (by show _ = _; rw [S_X7_keep, if_neg c_1, if_neg c_2, if_neg c_4]))⟩
        · skip
          refine v_aload_n (pc := 32) C dX7_keep_32 0 rfl rfl ?_
          refine v_dup (pc := 33) C dX7_keep_33 rfl ?_
          refine v_get (pc := 34) C (18, 0) (v := .int ((g 17 0 0))) ck_18 rfl 2 (by decide) inX7 wd_212 rfl rfl dX7_keep_34 ?_
          refine v_iconst (v := 1) (pc := 37) C dX7_keep_37 rfl ?_
          refine v_iadd (pc := 38) C dX7_keep_38 ?_
          refine v_put (pc := 39) C (18, 0) (v := .int (((g 17 0 0) + 1))) ck_18 rfl 2 (by decide) inX7 tyX7 tyX7_ok nmX7 wd_212 rfl (.inl (Value.int (((g 17 0 0) + 1)))) rfl (ty := tyX7 2) (by decide +kernel) rfl rfl (Nat.le_of_ble_eq_true rfl) dX7_keep_39 ?_
          refine v_h (h2 := (w (s3 g 17 0 0 (((g 17 0 0) + 1))) r)) (u_18_2) ?_
          refine v_aload_n (pc := 42) C dX7_keep_42 0 rfl rfl ?_
          refine v_get (pc := 43) C (18, 0) (v := .ref (A (20, 0))) ck_18 rfl 1 (by decide) inX7 wd_211 rfl rfl dX7_keep_43 ?_
          refine v_iload_n (pc := 46) C dX7_keep_46 1 rfl rfl ?_
          refine v_iconst (v := 1) (pc := 47) C dX7_keep_47 rfl ?_
          refine v_zast (pc := 48) C (20, 0) (x := 1) ck_20 (by (try simp only [Int32.le_iff_toInt_le, Int32.lt_iff_toInt_lt, ← Int32.toInt_inj, vp_in_iff, Int32.reduceToInt] at c_1 c_2 c_3 c_4 ⊢) <;> omega) (by decide) dX7_keep_48 ?_
          refine v_h (h2 := (w (s3 (s3 g 17 0 0 (((g 17 0 0) + 1))) 82 (x).toNatClampNeg 0 (1)) r)) (u_20_a) ?_
          refine v_aload_n (pc := 49) C dX7_keep_49 0 rfl rfl ?_
          refine v_get (pc := 50) C (18, 0) (v := .ref (A (19, 0))) ck_18 rfl 0 (by decide) inX7 wd_210 rfl rfl dX7_keep_50 ?_
          refine v_iload_n (pc := 53) C dX7_keep_53 1 rfl rfl ?_
          refine v_iload_n (pc := 54) C dX7_keep_54 2 rfl rfl ?_
          refine v_iast (pc := 55) C (19, 0) (x := y) ck_19 (by (try simp only [Int32.le_iff_toInt_le, Int32.lt_iff_toInt_lt, ← Int32.toInt_inj, vp_in_iff, Int32.reduceToInt] at c_1 c_2 c_3 c_4 ⊢) <;> omega) dX7_keep_55 ?_
          refine v_h (h2 := (w (s3 (s3 (s3 g 17 0 0 (((g 17 0 0) + 1))) 82 (x).toNatClampNeg 0 (1)) 83 (x).toNatClampNeg 0 (y)) r)) (u_19_a) ?_
          exact v_vret (pc := 56) C (by decide) (by decide) dX7_keep_56 ⟨rfl, rfl, (congrArg (fun q => w q r) (by show _ = _; rw [S_X7_keep, if_neg c_1, if_neg c_2, if_pos c_4]))⟩
def V_X10_keptCount (g : vS)  : Int32 := (g 3 0 0)
set_option maxHeartbeats 4000000 in
set_option maxRecDepth 100000 in
theorem c_X10_keptCount {G : vG} (hG : G.1.stackTraces = false) {A : vN → Nat} {g : vS} {r : vH}   : vCt G yX10_keptCount cX10_keptCount 1 (some .int) 0 [.ref (A (11, 0))] A (w g r) (fun v A2 h2 => v = some (.int (V_X10_keptCount g)) ∧ A2 = A ∧ h2 = w g r) (vNoX) 0 0 := by
  refine v_of hG (by decide +kernel) (Nat.le_of_ble_eq_true rfl) (lv := [(0, .ref (A (11, 0)))]) rfl (fun X C hnx => ?_)
  have C : vC G X cX10_keptCount 1 RX10 (some .int) "keptCount" 0 0 0 := C
  refine v_aload_n (pc := 0) C dX10_keptCount_0 0 rfl rfl ?_
  refine v_get (pc := 1) C (11, 0) (v := .int ((g 3 0 0))) ck_11 rfl 9 (by decide) inX10 wd_179 rfl rfl dX10_keptCount_1 ?_
  exact v_iret (pc := 4) C (by decide) (by decide) dX10_keptCount_4 ⟨(congrArg (fun q => some (Value.int q)) (by show _ = _; rw [V_X10_keptCount])), rfl, rfl⟩
def V_X10_isFull (g : vS)  : Int32 := (if (g 3 0 0) < 60 then 0 else 1)
theorem B_X10_isFull {g : vS}  : V_X10_isFull g = 0 ∨ V_X10_isFull g = 1 := by
  unfold V_X10_isFull
  (repeat' split) <;> first | exact Or.inl rfl | exact Or.inr rfl
set_option maxHeartbeats 4000000 in
set_option maxRecDepth 100000 in
theorem c_X10_isFull {G : vG} (hG : G.1.stackTraces = false) {A : vN → Nat} {g : vS} {r : vH}   : vCt G yX10_isFull cX10_isFull 1 (some .boolean) 0 [.ref (A (11, 0))] A (w g r) (fun v A2 h2 => v = some (.int (V_X10_isFull g)) ∧ A2 = A ∧ h2 = w g r) (vNoX) 0 0 := by
  refine v_of hG (by decide +kernel) (Nat.le_of_ble_eq_true rfl) (lv := [(0, .ref (A (11, 0)))]) rfl (fun X C hnx => ?_)
  have C : vC G X cX10_isFull 1 RX10 (some .boolean) "isFull" 0 0 0 := C
  refine v_aload_n (pc := 0) C dX10_isFull_0 0 rfl rfl ?_
  refine v_get (pc := 1) C (11, 0) (v := .int ((g 3 0 0))) ck_11 rfl 9 (by decide) inX10 wd_179 rfl rfl dX10_isFull_1 ?_
  refine v_bipush (v := 60) (pc := 4) C dX10_isFull_4 (by decide) ?_
  refine v_icmp_lt (pc := 6) (tgt := 13) C dX10_isFull_6 (by decide) (fun c_1 => ?_) (fun c_1 => ?_)
  · skip
    refine v_iconst (v := 0) (pc := 13) C dX10_isFull_13 rfl ?_
    exact v_zret (pc := 14) C rfl (by decide) (by decide) dX10_isFull_14 ⟨(congrArg (fun q => some (Value.int q)) (by show _ = _; rw [V_X10_isFull, if_pos c_1])), rfl, rfl⟩
  · skip
    refine v_iconst (v := 1) (pc := 9) C dX10_isFull_9 rfl ?_
    refine v_goto (tgt := 14) (pc := 10) C dX10_isFull_10 (by decide) ?_
    exact v_zret (pc := 14) C rfl (by decide) (by decide) dX10_isFull_14 ⟨(congrArg (fun q => some (Value.int q)) (by show _ = _; rw [V_X10_isFull, if_neg c_1])), rfl, rfl⟩
def V_X10_foundCount (g : vS)  : Int32 := (g 16 0 0)
set_option maxHeartbeats 4000000 in
set_option maxRecDepth 100000 in
theorem c_X10_foundCount {G : vG} (hG : G.1.stackTraces = false) {A : vN → Nat} {g : vS} {r : vH}   : vCt G yX10_foundCount cX10_foundCount 1 (some .int) 0 [.ref (A (11, 0))] A (w g r) (fun v A2 h2 => v = some (.int (V_X10_foundCount g)) ∧ A2 = A ∧ h2 = w g r) (vNoX) 0 0 := by
  refine v_of hG (by decide +kernel) (Nat.le_of_ble_eq_true rfl) (lv := [(0, .ref (A (11, 0)))]) rfl (fun X C hnx => ?_)
  have C : vC G X cX10_foundCount 1 RX10 (some .int) "foundCount" 0 0 0 := C
  refine v_aload_n (pc := 0) C dX10_foundCount_0 0 rfl rfl ?_
  refine v_get (pc := 1) C (11, 0) (v := .int ((g 16 0 0))) ck_11 rfl 10 (by decide) inX10 wd_180 rfl rfl dX10_foundCount_1 ?_
  exact v_iret (pc := 4) C (by decide) (by decide) dX10_foundCount_4 ⟨(congrArg (fun q => some (Value.int q)) (by show _ = _; rw [V_X10_foundCount])), rfl, rfl⟩
def VL_X10_keeps_2 (g : vS) (x : Int32) (y : Int32) : Nat → Nat → Int32
  | 0, _ => 0
  | n + 1, i_2 => (if (g 3 0 0) ≤ nI i_2 then 0 else (if 60 ≤ nI i_2 then 0 else (if (g 70 i_2 0) = x then (if (g 71 i_2 0) = y then 1 else (VL_X10_keeps_2 g x y n (i_2 + 1))) else (VL_X10_keeps_2 g x y n (i_2 + 1)))))
def V_X10_keeps (g : vS) (x : Int32) (y : Int32) : Int32 := (VL_X10_keeps_2 g x y (60 + 1) 0)
theorem BL_X10_keeps_2 {g : vS} {x : Int32} {y : Int32} : ∀ (n : Nat) (a0 : Nat), VL_X10_keeps_2 g x y n a0 = 0 ∨ VL_X10_keeps_2 g x y n a0 = 1 := by
  intro n
  induction n with
  | zero => intro a0; exact Or.inl rfl
  | succ n ih =>
    intro a0
    simp only [VL_X10_keeps_2]
    (repeat' split) <;> first | exact Or.inl rfl | exact Or.inr rfl | exact ih ..
theorem B_X10_keeps {g : vS} {x : Int32} {y : Int32} : V_X10_keeps g x y = 0 ∨ V_X10_keeps g x y = 1 := by
  unfold V_X10_keeps
  (repeat' split) <;> first | exact Or.inl rfl | exact Or.inr rfl | exact BL_X10_keeps_2 ..
set_option maxHeartbeats 4000000 in
set_option maxRecDepth 100000 in
theorem c_X10_keeps {G : vG} (hG : G.1.stackTraces = false) {A : vN → Nat} {g : vS} {r : vH} (x : Int32) (y : Int32)  : vCt G yX10_keeps cX10_keeps 4 (some .boolean) 0 [.ref (A (11, 0)), .int (x), .int (y)] A (w g r) (fun v A2 h2 => v = some (.int (V_X10_keeps g x y)) ∧ A2 = A ∧ h2 = w g r) (vNoX) 0 0 := by
  refine v_of hG (by decide +kernel) (Nat.le_of_ble_eq_true rfl) (lv := [(0, .ref (A (11, 0))), (1, .int (x)), (2, .int (y))]) rfl (fun X C hnx => ?_)
  have C : vC G X cX10_keeps 4 RX10 (some .boolean) "keeps" 0 0 0 := C
  refine v_iconst (v := 0) (pc := 0) C dX10_keeps_0 rfl ?_
  refine v_istore_n (lv2 := [(3, .int (0)), (0, .ref (A (11, 0))), (1, .int (x)), (2, .int (y))]) (pc := 1) C dX10_keeps_1 rfl (by decide) rfl ?_
  have L_2 : ∀ (n : Nat) (i_2 : Nat), i_2 ≤ 60 → 60 + 1 ≤ i_2 + n → (V_X10_keeps g x y) = VL_X10_keeps_2 g x y n i_2 → V G 4 X A (w g r) 0 0 (vM G X (fun v A2 h2 => v = some (.int (V_X10_keeps g x y)) ∧ A2 = A ∧ h2 = w g r) (vNoX) 0 0) 2 [(3, .int (nI i_2)), (0, .ref (A (11, 0))), (1, .int (x)), (2, .int (y))] [] := by
    intro n
    induction n with
    | zero => intro i_2 hi_2 hc_2 eV_2; exact absurd hc_2 (by omega)
    | succ n ih =>
      intro i_2 hi_2 hc_2 eV_2
      have hq_2 : (nI i_2).toInt = (i_2 : Int) := nI_toInt (by omega)
      have hr_2 : (nI (i_2 + 1)).toInt = ((i_2 + 1 : Nat) : Int) := nI_toInt (by omega)
      refine v_iload_n (pc := 2) C dX10_keeps_2 0 rfl rfl ?_
      refine v_aload_n (pc := 3) C dX10_keeps_3 1 rfl rfl ?_
      refine v_get (pc := 4) C (11, 0) (v := .int ((g 3 0 0))) ck_11 rfl 9 (by decide) inX10 wd_179 rfl rfl dX10_keeps_4 ?_
      refine v_icmp_ge (pc := 7) (tgt := 56) C dX10_keeps_7 (by decide) (fun c_1 => ?_) (fun c_1 => ?_)
      · skip
        refine v_iconst (v := 0) (pc := 56) C dX10_keeps_56 rfl ?_
        exact v_zret (pc := 57) C rfl (by decide) (by decide) dX10_keeps_57 ⟨(congrArg (fun q => some (Value.int q)) (by show _ = _; rw [eV_2, VL_X10_keeps_2, if_pos c_1])), rfl, rfl⟩
      · skip
        refine v_iload_n (pc := 10) C dX10_keeps_10 0 rfl rfl ?_
        refine v_aload_n (pc := 11) C dX10_keeps_11 1 rfl rfl ?_
        refine v_get (pc := 12) C (11, 0) (v := .ref (A (12, 0))) ck_11 rfl 4 (by decide) inX10 wd_174 rfl rfl dX10_keeps_12 ?_
        refine v_alen (pc := 15) C (12, 0) (v := 60) ck_12 rfl (by decide) dX10_keeps_15 ?_
        refine v_icmp_ge (pc := 16) (tgt := 56) C dX10_keeps_16 (by decide) (fun c_2 => ?_) (fun c_2 => ?_)
        · skip
          refine v_iconst (v := 0) (pc := 56) C dX10_keeps_56 rfl ?_
          exact v_zret (pc := 57) C rfl (by decide) (by decide) dX10_keeps_57 ⟨(congrArg (fun q => some (Value.int q)) (by show _ = _; rw [eV_2, VL_X10_keeps_2, if_neg c_1, if_pos c_2])), rfl, rfl⟩
        · skip
          refine v_iload_n (pc := 19) C dX10_keeps_19 0 rfl rfl ?_
          refine v_aload_n (pc := 20) C dX10_keeps_20 1 rfl rfl ?_
          refine v_get (pc := 21) C (11, 0) (v := .ref (A (13, 0))) ck_11 rfl 5 (by decide) inX10 wd_175 rfl rfl dX10_keeps_21 ?_
          refine v_alen (pc := 24) C (13, 0) (v := 60) ck_13 rfl (by decide) dX10_keeps_24 ?_
          refine v_icmp_ge (pc := 25) (tgt := 56) C dX10_keeps_25 (by decide) (fun c_3 => ?_) (fun c_3 => ?_)
          · skip
            exact absurd c_3 c_2
          · skip
            refine v_aload_n (pc := 28) C dX10_keeps_28 1 rfl rfl ?_
            refine v_get (pc := 29) C (11, 0) (v := .ref (A (12, 0))) ck_11 rfl 4 (by decide) inX10 wd_174 rfl rfl dX10_keeps_29 ?_
            refine v_iload_n (pc := 32) C dX10_keeps_32 0 rfl rfl ?_
            refine v_iald (pc := 33) C (12, 0) (v := (g 70 i_2 0)) ck_12 (by (try simp only [Int32.le_iff_toInt_le, Int32.lt_iff_toInt_lt, ← Int32.toInt_inj, vp_in_iff, Int32.reduceToInt] at c_1 c_2 c_3 hq_2 hr_2 ⊢) <;> omega) ((congrArg (fun k => g 70 k 0) (show (nI i_2 : Int32).toNatClampNeg = i_2 from (nI_clamp (by omega)))).trans rfl) dX10_keeps_33 ?_
            refine v_iload_n (pc := 34) C dX10_keeps_34 2 rfl rfl ?_
            refine v_icmp_ne (pc := 35) (tgt := 50) C dX10_keeps_35 (by decide) (fun c_4 => ?_) (fun c_4 => ?_)
            · skip
              refine v_iinc (v := nI (i_2 + 1)) (lv2 := [(3, .int (nI (i_2 + 1))), (0, .ref (A (11, 0))), (1, .int (x)), (2, .int (y))]) (pc := 50) C dX10_keeps_50 0 rfl (nI_1 _) (by decide) rfl ?_
              refine v_goto (tgt := 2) (pc := 53) C dX10_keeps_53 (by decide) ?_
              refine v_lv (lv2 := [(3, .int (nI (i_2 + 1))), (0, .ref (A (11, 0))), (1, .int (x)), (2, .int (y))]) [0, 1, 2, 3] rfl ?_
              exact ih (i_2 + 1) (by (try simp only [Int32.le_iff_toInt_le, Int32.lt_iff_toInt_lt, ← Int32.toInt_inj, vp_in_iff, Int32.reduceToInt] at c_1 c_2 c_3 c_4 hq_2 hr_2 ⊢) <;> omega) (by omega)  (by rw [eV_2, VL_X10_keeps_2, if_neg c_1, if_neg c_2, if_neg c_4])
            · skip
              refine v_aload_n (pc := 38) C dX10_keeps_38 1 rfl rfl ?_
              refine v_get (pc := 39) C (11, 0) (v := .ref (A (13, 0))) ck_11 rfl 5 (by decide) inX10 wd_175 rfl rfl dX10_keeps_39 ?_
              refine v_iload_n (pc := 42) C dX10_keeps_42 0 rfl rfl ?_
              refine v_iald (pc := 43) C (13, 0) (v := (g 71 i_2 0)) ck_13 (by (try simp only [Int32.le_iff_toInt_le, Int32.lt_iff_toInt_lt, ← Int32.toInt_inj, vp_in_iff, Int32.reduceToInt] at c_1 c_2 c_3 c_4 hq_2 hr_2 ⊢) <;> omega) ((congrArg (fun k => g 71 k 0) (show (nI i_2 : Int32).toNatClampNeg = i_2 from (nI_clamp (by omega)))).trans rfl) dX10_keeps_43 ?_
              refine v_iload_n (pc := 44) C dX10_keeps_44 3 rfl rfl ?_
              refine v_icmp_ne (pc := 45) (tgt := 50) C dX10_keeps_45 (by decide) (fun c_5 => ?_) (fun c_5 => ?_)
              · skip
                refine v_iinc (v := nI (i_2 + 1)) (lv2 := [(3, .int (nI (i_2 + 1))), (0, .ref (A (11, 0))), (1, .int (x)), (2, .int (y))]) (pc := 50) C dX10_keeps_50 0 rfl (nI_1 _) (by decide) rfl ?_
                refine v_goto (tgt := 2) (pc := 53) C dX10_keeps_53 (by decide) ?_
                refine v_lv (lv2 := [(3, .int (nI (i_2 + 1))), (0, .ref (A (11, 0))), (1, .int (x)), (2, .int (y))]) [0, 1, 2, 3] rfl ?_
                exact ih (i_2 + 1) (by (try simp only [Int32.le_iff_toInt_le, Int32.lt_iff_toInt_lt, ← Int32.toInt_inj, vp_in_iff, Int32.reduceToInt] at c_1 c_2 c_3 c_4 c_5 hq_2 hr_2 ⊢) <;> omega) (by omega)  (by rw [eV_2, VL_X10_keeps_2, if_neg c_1, if_neg c_2, if_pos c_4, if_neg c_5])
              · skip
                refine v_iconst (v := 1) (pc := 48) C dX10_keeps_48 rfl ?_
                exact v_zret (pc := 49) C rfl (by decide) (by decide) dX10_keeps_49 ⟨(congrArg (fun q => some (Value.int q)) (by show _ = _; rw [eV_2, VL_X10_keeps_2, if_neg c_1, if_neg c_2, if_pos c_4, if_pos c_5])), rfl, rfl⟩
  exact L_2 (60 + 1) 0 (by omega) (by omega)  (by rw [V_X10_keeps])
def S_X10_keep (g : vS) (x : Int32) (y : Int32) : vS := (if (g 3 0 0) < 0 then g else (if 60 ≤ (g 3 0 0) then g else (s3 (s3 (s3 g 70 ((g 3 0 0)).toNatClampNeg 0 (x)) 71 ((g 3 0 0)).toNatClampNeg 0 (y)) 3 0 0 (((g 3 0 0) + 1)))))
theorem F_X10_keep {g : vS} {x : Int32} {y : Int32} {c i j : Nat} (h3 : c ≠ 3) (h70 : c ≠ 70) (h71 : c ≠ 71) : S_X10_keep g x y c i j = g c i j := by
  unfold S_X10_keep
  (repeat' split) <;> first | rfl | ((simp only [s3_k h3, s3_k h70, s3_k h71]) <;> first | done | rfl)
set_option maxHeartbeats 4000000 in
set_option maxRecDepth 100000 in
theorem c_X10_keep {G : vG} (hG : G.1.stackTraces = false) {A : vN → Nat} {g : vS} {r : vH} (x : Int32) (y : Int32)  : vCt G yX10_keep cX10_keep 3 none 0 [.ref (A (11, 0)), .int (x), .int (y)] A (w g r) (fun v A2 h2 => v = none ∧ A2 = A ∧ h2 = w (S_X10_keep g x y) r) (vNoX) 0 0 := by
  refine v_of hG (by decide +kernel) (Nat.le_of_ble_eq_true rfl) (lv := [(0, .ref (A (11, 0))), (1, .int (x)), (2, .int (y))]) rfl (fun X C hnx => ?_)
  have C : vC G X cX10_keep 3 RX10 none "keep" 0 0 0 := C
  refine v_aload_n (pc := 0) C dX10_keep_0 0 rfl rfl ?_
  refine v_get (pc := 1) C (11, 0) (v := .int ((g 3 0 0))) ck_11 rfl 9 (by decide) inX10 wd_179 rfl rfl dX10_keep_1 ?_
  refine v_if_lt (pc := 4) (tgt := 61) C dX10_keep_4 (by decide) (fun c_1 => ?_) (fun c_1 => ?_)
  · skip
    exact v_vret (pc := 61) C (by decide) (by decide) dX10_keep_61 ⟨rfl, rfl, (congrArg (fun q => w q r) (by show _ = _; rw [S_X10_keep, if_pos c_1]))⟩
  · skip
    refine v_aload_n (pc := 7) C dX10_keep_7 0 rfl rfl ?_
    refine v_get (pc := 8) C (11, 0) (v := .int ((g 3 0 0))) ck_11 rfl 9 (by decide) inX10 wd_179 rfl rfl dX10_keep_8 ?_
    refine v_aload_n (pc := 11) C dX10_keep_11 0 rfl rfl ?_
    refine v_get (pc := 12) C (11, 0) (v := .ref (A (12, 0))) ck_11 rfl 4 (by decide) inX10 wd_174 rfl rfl dX10_keep_12 ?_
    refine v_alen (pc := 15) C (12, 0) (v := 60) ck_12 rfl (by decide) dX10_keep_15 ?_
    refine v_icmp_ge (pc := 16) (tgt := 61) C dX10_keep_16 (by decide) (fun c_2 => ?_) (fun c_2 => ?_)
    · skip
      exact v_vret (pc := 61) C (by decide) (by decide) dX10_keep_61 ⟨rfl, rfl, (congrArg (fun q => w q r) (by show _ = _; rw [S_X10_keep, if_neg c_1, if_pos c_2]))⟩
    · skip
      refine v_aload_n (pc := 19) C dX10_keep_19 0 rfl rfl ?_
      refine v_get (pc := 20) C (11, 0) (v := .int ((g 3 0 0))) ck_11 rfl 9 (by decide) inX10 wd_179 rfl rfl dX10_keep_20 ?_
      refine v_aload_n (pc := 23) C dX10_keep_23 0 rfl rfl ?_
      refine v_get (pc := 24) C (11, 0) (v := .ref (A (13, 0))) ck_11 rfl 5 (by decide) inX10 wd_175 rfl rfl dX10_keep_24 ?_
      refine v_alen (pc := 27) C (13, 0) (v := 60) ck_13 rfl (by decide) dX10_keep_27 ?_
      refine v_icmp_ge (pc := 28) (tgt := 61) C dX10_keep_28 (by decide) (fun c_3 => ?_) (fun c_3 => ?_)
      · skip
        exact absurd c_3 c_2
      · skip
        refine v_aload_n (pc := 31) C dX10_keep_31 0 rfl rfl ?_
        refine v_get (pc := 32) C (11, 0) (v := .ref (A (12, 0))) ck_11 rfl 4 (by decide) inX10 wd_174 rfl rfl dX10_keep_32 ?_
        refine v_aload_n (pc := 35) C dX10_keep_35 0 rfl rfl ?_
        refine v_get (pc := 36) C (11, 0) (v := .int ((g 3 0 0))) ck_11 rfl 9 (by decide) inX10 wd_179 rfl rfl dX10_keep_36 ?_
        refine v_iload_n (pc := 39) C dX10_keep_39 1 rfl rfl ?_
        refine v_iast (pc := 40) C (12, 0) (x := x) ck_12 (by (try simp only [Int32.le_iff_toInt_le, Int32.lt_iff_toInt_lt, ← Int32.toInt_inj, vp_in_iff, Int32.reduceToInt] at c_1 c_2 c_3 ⊢) <;> omega) dX10_keep_40 ?_
        refine v_h (h2 := (w (s3 g 70 ((g 3 0 0)).toNatClampNeg 0 (x)) r)) (u_12_a) ?_
        refine v_aload_n (pc := 41) C dX10_keep_41 0 rfl rfl ?_
        refine v_get (pc := 42) C (11, 0) (v := .ref (A (13, 0))) ck_11 rfl 5 (by decide) inX10 wd_175 rfl rfl dX10_keep_42 ?_
        refine v_aload_n (pc := 45) C dX10_keep_45 0 rfl rfl ?_
        refine v_get (pc := 46) C (11, 0) (v := .int ((g 3 0 0))) ck_11 rfl 9 (by decide) inX10 wd_179 rfl rfl dX10_keep_46 ?_
        refine v_iload_n (pc := 49) C dX10_keep_49 2 rfl rfl ?_
        refine v_iast (pc := 50) C (13, 0) (x := y) ck_13 (by (try simp only [Int32.le_iff_toInt_le, Int32.lt_iff_toInt_lt, ← Int32.toInt_inj, vp_in_iff, Int32.reduceToInt] at c_1 c_2 c_3 ⊢) <;> omega) dX10_keep_50 ?_
        refine v_h (h2 := (w (s3 (s3 g 70 ((g 3 0 0)).toNatClampNeg 0 (x)) 71 ((g 3 0 0)).toNatClampNeg 0 (y)) r)) (u_13_a) ?_
        refine v_aload_n (pc := 51) C dX10_keep_51 0 rfl rfl ?_
        refine v_dup (pc := 52) C dX10_keep_52 rfl ?_
        refine v_get (pc := 53) C (11, 0) (v := .int ((g 3 0 0))) ck_11 rfl 9 (by decide) inX10 wd_179 rfl rfl dX10_keep_53 ?_
        refine v_iconst (v := 1) (pc := 56) C dX10_keep_56 rfl ?_
        refine v_iadd (pc := 57) C dX10_keep_57 ?_
        refine v_put (pc := 58) C (11, 0) (v := .int (((g 3 0 0) + 1))) ck_11 rfl 9 (by decide) inX10 tyX10 tyX10_ok nmX10 wd_179 rfl (.inl (Value.int (((g 3 0 0) + 1)))) rfl (ty := tyX10 9) (by decide +kernel) rfl rfl (Nat.le_of_ble_eq_true rfl) dX10_keep_58 ?_
        refine v_h (h2 := (w (s3 (s3 (s3 g 70 ((g 3 0 0)).toNatClampNeg 0 (x)) 71 ((g 3 0 0)).toNatClampNeg 0 (y)) 3 0 0 (((g 3 0 0) + 1))) r)) (u_11_9) ?_
        exact v_vret (pc := 61) C (by decide) (by decide) dX10_keep_61 ⟨rfl, rfl, (congrArg (fun q => w q r) (by show _ = _; rw [S_X10_keep, if_neg c_1, if_neg c_2]))⟩
def SL_X10_startQuestion_2 (g : vS)  : Nat → Nat → vS → vS
  | 0, _, q9 => q9
  | n + 1, i_2, q_2 => (if 20 ≤ nI i_2 then q_2 else (SL_X10_startQuestion_2 g n (i_2 + 1) (s3 q_2 72 i_2 0 (0))))
def S_X10_startQuestion (g : vS)  : vS := (SL_X10_startQuestion_2 g (20 + 1) 0 g)
theorem FL_X10_startQuestion_2 {g : vS}  {c i j : Nat} (h72 : c ≠ 72) : ∀ (n : Nat) (a0 : Nat) (a1 : vS), a1 c i j = g c i j → SL_X10_startQuestion_2 g n a0 a1 c i j = g c i j := by
  intro n
  induction n with
  | zero => intro a0 a1 hq9; exact hq9
  | succ n ih =>
    intro a0 a1 hq9
    simp only [SL_X10_startQuestion_2]
    (repeat' split) <;> first | rfl | exact hq9 | (apply ih; first | exact hq9 | rfl | trivial | ((simp only [s3_k h72]) <;> first | done | exact hq9 | rfl)) | ((simp only [s3_k h72]) <;> first | done | exact hq9 | rfl)
theorem F_X10_startQuestion {g : vS}  {c i j : Nat} (h72 : c ≠ 72) : S_X10_startQuestion g c i j = g c i j := by
  unfold S_X10_startQuestion
  (repeat' split) <;> first | rfl | (apply FL_X10_startQuestion_2 h72; first | rfl | trivial | ((simp only [s3_k h72]) <;> first | done | rfl)) | ((simp only [s3_k h72]) <;> first | done | rfl)
set_option maxHeartbeats 4000000 in
set_option maxRecDepth 100000 in
theorem c_X10_startQuestion {G : vG} (hG : G.1.stackTraces = false) {A : vN → Nat} {g : vS} {r : vH}   : vCt G yX10_startQuestion cX10_startQuestion 2 none 0 [.ref (A (11, 0))] A (w g r) (fun v A2 h2 => v = none ∧ A2 = A ∧ h2 = w (S_X10_startQuestion g) r) (vNoX) 0 0 := by
  refine v_of hG (by decide +kernel) (Nat.le_of_ble_eq_true rfl) (lv := [(0, .ref (A (11, 0)))]) rfl (fun X C hnx => ?_)
  have C : vC G X cX10_startQuestion 2 RX10 none "startQuestion" 0 0 0 := C
  refine v_iconst (v := 0) (pc := 0) C dX10_startQuestion_0 rfl ?_
  refine v_istore_n (lv2 := [(1, .int (0)), (0, .ref (A (11, 0)))]) (pc := 1) C dX10_startQuestion_1 rfl (by decide) rfl ?_
  have L_2 : ∀ (n : Nat) (i_2 : Nat) (q_2 : vS), i_2 ≤ 20 → 20 + 1 ≤ i_2 + n → (∀ (c i j : Nat), c ≠ 72 → q_2 c i j = g c i j) → (S_X10_startQuestion g) = SL_X10_startQuestion_2 g n i_2 q_2 → V G 2 X A (w q_2 r) 0 0 (vM G X (fun v A2 h2 => v = none ∧ A2 = A ∧ h2 = w (S_X10_startQuestion g) r) (vNoX) 0 0) 2 [(1, .int (nI i_2)), (0, .ref (A (11, 0)))] [] := by
    intro n
    induction n with
    | zero => intro i_2 q_2 hi_2 hc_2 hF_2 eS_2; exact absurd hc_2 (by omega)
    | succ n ih =>
      intro i_2 q_2 hi_2 hc_2 hF_2 eS_2
      have hq_2 : (nI i_2).toInt = (i_2 : Int) := nI_toInt (by omega)
      have hr_2 : (nI (i_2 + 1)).toInt = ((i_2 + 1 : Nat) : Int) := nI_toInt (by omega)
      refine v_iload_n (pc := 2) C dX10_startQuestion_2 0 rfl rfl ?_
      refine v_aload_n (pc := 3) C dX10_startQuestion_3 1 rfl rfl ?_
      refine v_get (pc := 4) C (11, 0) (v := .ref (A (16, 0))) ck_11 rfl 7 (by decide) inX10 wd_177 rfl rfl dX10_startQuestion_4 ?_
      refine v_alen (pc := 7) C (16, 0) (v := 20) ck_16 rfl (by decide) dX10_startQuestion_7 ?_
      refine v_icmp_ge (pc := 8) (tgt := 24) C dX10_startQuestion_8 (by decide) (fun c_1 => ?_) (fun c_1 => ?_)
      · skip
        exact v_vret (pc := 24) C (by decide) (by decide) dX10_startQuestion_24 ⟨rfl, rfl, (congrArg (fun q => w q r) (by show _ = _; rw [eS_2, SL_X10_startQuestion_2, if_pos c_1]))⟩
      · skip
        refine v_aload_n (pc := 11) C dX10_startQuestion_11 1 rfl rfl ?_
        refine v_get (pc := 12) C (11, 0) (v := .ref (A (16, 0))) ck_11 rfl 7 (by decide) inX10 wd_177 rfl rfl dX10_startQuestion_12 ?_
        refine v_iload_n (pc := 15) C dX10_startQuestion_15 0 rfl rfl ?_
        refine v_iconst (v := 0) (pc := 16) C dX10_startQuestion_16 rfl ?_
        refine v_zast (pc := 17) C (16, 0) (x := 0) ck_16 (by (try simp only [Int32.le_iff_toInt_le, Int32.lt_iff_toInt_lt, ← Int32.toInt_inj, vp_in_iff, Int32.reduceToInt] at c_1 hq_2 hr_2 ⊢) <;> omega) (by decide) dX10_startQuestion_17 ?_
        rw [show (nI i_2 : Int32).toNatClampNeg = i_2 from (nI_clamp (by omega))]
        refine v_h (h2 := (w (s3 q_2 72 i_2 0 (0)) r)) (u_16_a) ?_
        refine v_iinc (v := nI (i_2 + 1)) (lv2 := [(1, .int (nI (i_2 + 1))), (0, .ref (A (11, 0)))]) (pc := 18) C dX10_startQuestion_18 0 rfl (nI_1 _) (by decide) rfl ?_
        refine v_goto (tgt := 2) (pc := 21) C dX10_startQuestion_21 (by decide) ?_
        refine v_lv (lv2 := [(1, .int (nI (i_2 + 1))), (0, .ref (A (11, 0)))]) [0, 1] rfl ?_
        exact ih (i_2 + 1) (s3 q_2 72 i_2 0 (0)) (by (try simp only [Int32.le_iff_toInt_le, Int32.lt_iff_toInt_lt, ← Int32.toInt_inj, vp_in_iff, Int32.reduceToInt] at c_1 hq_2 hr_2 ⊢) <;> omega) (by omega) (fun c i j h72 => (s3_k h72).trans (hF_2 c i j h72)) (by rw [eS_2, SL_X10_startQuestion_2, if_neg c_1])
  exact L_2 (20 + 1) 0 g (by omega) (by omega) (fun c i j h72 => rfl) (by rw [S_X10_startQuestion])
def V_X10_foundFile (g : vS) (x : Int32) : Int32 := (if x < 0 then 0 else (if 20 ≤ x then 0 else (g 73 (x).toNatClampNeg 0)))
set_option maxHeartbeats 4000000 in
set_option maxRecDepth 100000 in
theorem c_X10_foundFile {G : vG} (hG : G.1.stackTraces = false) {A : vN → Nat} {g : vS} {r : vH} (x : Int32)  : vCt G yX10_foundFile cX10_foundFile 2 (some .int) 0 [.ref (A (11, 0)), .int (x)] A (w g r) (fun v A2 h2 => v = some (.int (V_X10_foundFile g x)) ∧ A2 = A ∧ h2 = w g r) (vNoX) 0 0 := by
  refine v_of hG (by decide +kernel) (Nat.le_of_ble_eq_true rfl) (lv := [(0, .ref (A (11, 0))), (1, .int (x))]) rfl (fun X C hnx => ?_)
  have C : vC G X cX10_foundFile 2 RX10 (some .int) "foundFile" 0 0 0 := C
  refine v_iload_n (pc := 0) C dX10_foundFile_0 1 rfl rfl ?_
  refine v_if_lt (pc := 1) (tgt := 22) C dX10_foundFile_1 (by decide) (fun c_1 => ?_) (fun c_1 => ?_)
  · skip
    refine v_iconst (v := 0) (pc := 22) C dX10_foundFile_22 rfl ?_
    exact v_iret (pc := 23) C (by decide) (by decide) dX10_foundFile_23 ⟨(congrArg (fun q => some (Value.int q)) (by show _ = _; rw [V_X10_foundFile, if_pos c_1])), rfl, rfl⟩
  · skip
    refine v_iload_n (pc := 4) C dX10_foundFile_4 1 rfl rfl ?_
    refine v_aload_n (pc := 5) C dX10_foundFile_5 0 rfl rfl ?_
    refine v_get (pc := 6) C (11, 0) (v := .ref (A (17, 0))) ck_11 rfl 8 (by decide) inX10 wd_178 rfl rfl dX10_foundFile_6 ?_
    refine v_alen (pc := 9) C (17, 0) (v := 20) ck_17 rfl (by decide) dX10_foundFile_9 ?_
    refine v_icmp_ge (pc := 10) (tgt := 22) C dX10_foundFile_10 (by decide) (fun c_2 => ?_) (fun c_2 => ?_)
    · skip
      refine v_iconst (v := 0) (pc := 22) C dX10_foundFile_22 rfl ?_
      exact v_iret (pc := 23) C (by decide) (by decide) dX10_foundFile_23 ⟨(congrArg (fun q => some (Value.int q)) (by show _ = _; rw [V_X10_foundFile, if_neg c_1, if_pos c_2])), rfl, rfl⟩
    · skip
      refine v_aload_n (pc := 13) C dX10_foundFile_13 0 rfl rfl ?_
      refine v_get (pc := 14) C (11, 0) (v := .ref (A (17, 0))) ck_11 rfl 8 (by decide) inX10 wd_178 rfl rfl dX10_foundFile_14 ?_
      refine v_iload_n (pc := 17) C dX10_foundFile_17 1 rfl rfl ?_
      refine v_iald (pc := 18) C (17, 0) (v := (g 73 (x).toNatClampNeg 0)) ck_17 (by (try simp only [Int32.le_iff_toInt_le, Int32.lt_iff_toInt_lt, ← Int32.toInt_inj, vp_in_iff, Int32.reduceToInt] at c_1 c_2 ⊢) <;> omega) rfl dX10_foundFile_18 ?_
      refine v_goto (tgt := 23) (pc := 19) C dX10_foundFile_19 (by decide) ?_
      exact v_iret (pc := 23) C (by decide) (by decide) dX10_foundFile_23 ⟨(congrArg (fun q => some (Value.int q)) (by show _ = _; rw [V_X10_foundFile, if_neg c_1, if_neg c_2])), rfl, rfl⟩
