def vEx (n : Nat) : String := if n = 1 then "java/util/NoSuchElementException" else if n = 2 then "java/lang/IllegalArgumentException" else if n = 3 then "java/lang/IllegalStateException" else if n = 4 then "java/lang/UnsupportedOperationException" else if n = 5 then "java/lang/IndexOutOfBoundsException" else "java/lang/ArithmeticException"

def V_X3_hasMember (g : vS) (gi : Nat) (u : Int32) : Int32 := (if u < 0 then 0 else (if 6 ≤ u then 0 else (if (g 44 gi (u).toNatClampNeg) = 0 then 0 else 1)))
set_option maxHeartbeats 4000000 in
set_option maxRecDepth 100000 in
theorem c_X3_hasMember {G : vG} (hG : G.1.stackTraces = false) {A : vN → Nat} {g : vS} {r : vH} (gi : Nat) (u : Int32) (hg : g 104 gi 0 ≠ 0) : vCt G yX3_hasMember cX3_hasMember 2 (some .boolean) 0 [.ref (A (27, gi)), .int (u)] A (w g r) (fun v A2 h2 => v = some (.int (V_X3_hasMember g gi u)) ∧ A2 = A ∧ h2 = w g r) (vNoX) 0 0 := by
  refine v_of hG (by decide +kernel) (Nat.le_of_ble_eq_true rfl) (lv := [(0, .ref (A (27, gi))), (1, .int (u))]) rfl (fun X C hnx => ?_)
  have C : vC G X cX3_hasMember 2 RX3 (some .boolean) "hasMember" 0 0 0 := C
  refine v_iload_n (pc := 0) C dX3_hasMember_0 1 rfl rfl ?_
  refine v_if_lt (pc := 1) (tgt := 26) C dX3_hasMember_1 (by decide) (fun c_1 => ?_) (fun c_1 => ?_)
  · skip
    refine v_iconst (v := 0) (pc := 26) C dX3_hasMember_26 rfl ?_
    exact v_zret (pc := 27) C rfl (by decide) (by decide) dX3_hasMember_27 ⟨(congrArg (fun q => some (Value.int q)) (by show _ = _; rw [V_X3_hasMember, if_pos c_1])), rfl, rfl⟩
  · skip
    refine v_iload_n (pc := 4) C dX3_hasMember_4 1 rfl rfl ?_
    refine v_aload_n (pc := 5) C dX3_hasMember_5 0 rfl rfl ?_
    refine v_get (pc := 6) C (27, gi) (v := .ref (A (28, gi))) (ck_27 (g := g) hg) rfl 6 (by decide) inX3 wd_550 rfl rfl dX3_hasMember_6 ?_
    refine v_alen (pc := 9) C (28, gi) (v := 6) (ck_28 (g := g) hg) rfl (by decide) dX3_hasMember_9 ?_
    refine v_icmp_ge (pc := 10) (tgt := 26) C dX3_hasMember_10 (by decide) (fun c_2 => ?_) (fun c_2 => ?_)
    · skip
      refine v_iconst (v := 0) (pc := 26) C dX3_hasMember_26 rfl ?_
      exact v_zret (pc := 27) C rfl (by decide) (by decide) dX3_hasMember_27 ⟨(congrArg (fun q => some (Value.int q)) (by show _ = _; rw [V_X3_hasMember, if_neg c_1, if_pos c_2])), rfl, rfl⟩
    · skip
      refine v_aload_n (pc := 13) C dX3_hasMember_13 0 rfl rfl ?_
      refine v_get (pc := 14) C (27, gi) (v := .ref (A (28, gi))) (ck_27 (g := g) hg) rfl 6 (by decide) inX3 wd_550 rfl rfl dX3_hasMember_14 ?_
      refine v_iload_n (pc := 17) C dX3_hasMember_17 1 rfl rfl ?_
      refine v_zald (pc := 18) C (28, gi) (v := (g 44 gi (u).toNatClampNeg)) (ck_28 (g := g) hg) (by (try simp only [Int32.le_iff_toInt_le, Int32.lt_iff_toInt_lt, ← Int32.toInt_inj, vp_in_iff] at c_1 c_2 ⊢) <;> (try simp at *) <;> omega) rfl dX3_hasMember_18 ?_
      refine v_if_eq (pc := 19) (tgt := 26) C dX3_hasMember_19 (by decide) (fun c_3 => ?_) (fun c_3 => ?_)
      · skip
        refine v_iconst (v := 0) (pc := 26) C dX3_hasMember_26 rfl ?_
        exact v_zret (pc := 27) C rfl (by decide) (by decide) dX3_hasMember_27 ⟨(congrArg (fun q => some (Value.int q)) (by show _ = _; rw [V_X3_hasMember, if_neg c_1, if_neg c_2, if_pos c_3])), rfl, rfl⟩
      · skip
        refine v_iconst (v := 1) (pc := 22) C dX3_hasMember_22 rfl ?_
        refine v_goto (tgt := 27) (pc := 23) C dX3_hasMember_23 (by decide) ?_
        exact v_zret (pc := 27) C rfl (by decide) (by decide) dX3_hasMember_27 ⟨(congrArg (fun q => some (Value.int q)) (by show _ = _; rw [V_X3_hasMember, if_neg c_1, if_neg c_2, if_neg c_3])), rfl, rfl⟩
def S_X3_takeIn (g : vS) (gi : Nat) (u : Int32) : vS := (if u < 0 then g else (if 6 ≤ u then g else (s3 (s3 g 44 gi (u).toNatClampNeg (1)) 43 gi 0 (((g 43 gi 0) + 1)))))
theorem F_X3_takeIn {g : vS} {gi : Nat} {u : Int32} {c i j : Nat} (h43 : c ≠ 43) (h44 : c ≠ 44) : S_X3_takeIn g gi u c i j = g c i j := by
  unfold S_X3_takeIn
  (repeat' split) <;> first | rfl | simp only [s3_k h43, s3_k h44]
set_option maxHeartbeats 4000000 in
set_option maxRecDepth 100000 in
theorem c_X3_takeIn {G : vG} (hG : G.1.stackTraces = false) {A : vN → Nat} {g : vS} {r : vH} (gi : Nat) (u : Int32) (hg : g 104 gi 0 ≠ 0) : vCt G yX3_takeIn cX3_takeIn 2 none 0 [.ref (A (27, gi)), .int (u)] A (w g r) (fun v A2 h2 => v = none ∧ A2 = A ∧ h2 = w (S_X3_takeIn g gi u) r) (vNoX) 0 0 := by
  refine v_of hG (by decide +kernel) (Nat.le_of_ble_eq_true rfl) (lv := [(0, .ref (A (27, gi))), (1, .int (u))]) rfl (fun X C hnx => ?_)
  have C : vC G X cX3_takeIn 2 RX3 none "takeIn" 0 0 0 := C
  refine v_iload_n (pc := 0) C dX3_takeIn_0 1 rfl rfl ?_
  refine v_if_lt (pc := 1) (tgt := 30) C dX3_takeIn_1 (by decide) (fun c_1 => ?_) (fun c_1 => ?_)
  · skip
    exact v_vret (pc := 30) C (by decide) (by decide) dX3_takeIn_30 ⟨rfl, rfl, (congrArg (fun q => w q r) (by show _ = _; rw [S_X3_takeIn, if_pos c_1]))⟩
  · skip
    refine v_iload_n (pc := 4) C dX3_takeIn_4 1 rfl rfl ?_
    refine v_aload_n (pc := 5) C dX3_takeIn_5 0 rfl rfl ?_
    refine v_get (pc := 6) C (27, gi) (v := .ref (A (28, gi))) (ck_27 (g := g) hg) rfl 6 (by decide) inX3 wd_550 rfl rfl dX3_takeIn_6 ?_
    refine v_alen (pc := 9) C (28, gi) (v := 6) (ck_28 (g := g) hg) rfl (by decide) dX3_takeIn_9 ?_
    refine v_icmp_ge (pc := 10) (tgt := 30) C dX3_takeIn_10 (by decide) (fun c_2 => ?_) (fun c_2 => ?_)
    · skip
      exact v_vret (pc := 30) C (by decide) (by decide) dX3_takeIn_30 ⟨rfl, rfl, (congrArg (fun q => w q r) (by show _ = _; rw [S_X3_takeIn, if_neg c_1, if_pos c_2]))⟩
    · skip
      refine v_aload_n (pc := 13) C dX3_takeIn_13 0 rfl rfl ?_
      refine v_get (pc := 14) C (27, gi) (v := .ref (A (28, gi))) (ck_27 (g := g) hg) rfl 6 (by decide) inX3 wd_550 rfl rfl dX3_takeIn_14 ?_
      refine v_iload_n (pc := 17) C dX3_takeIn_17 1 rfl rfl ?_
      refine v_iconst (v := 1) (pc := 18) C dX3_takeIn_18 rfl ?_
      refine v_zast (pc := 19) C (28, gi) (x := 1) (ck_28 (g := g) hg) (by (try simp only [Int32.le_iff_toInt_le, Int32.lt_iff_toInt_lt, ← Int32.toInt_inj, vp_in_iff] at c_1 c_2 ⊢) <;> (try simp at *) <;> omega) (by decide) dX3_takeIn_19 ?_
      refine v_h (h2 := (w (s3 g 44 gi (u).toNatClampNeg (1)) r)) (u_28_a (g := g) hg) ?_
      refine v_aload_n (pc := 20) C dX3_takeIn_20 0 rfl rfl ?_
      refine v_dup (pc := 21) C dX3_takeIn_21 rfl ?_
      refine v_get (pc := 22) C (27, gi) (v := .int ((g 43 gi 0))) (ck_27 (g := (s3 g 44 gi (u).toNatClampNeg (1))) hg) rfl 5 (by decide) inX3 wd_548 rfl rfl dX3_takeIn_22 ?_
      refine v_iconst (v := 1) (pc := 25) C dX3_takeIn_25 rfl ?_
      refine v_iadd (pc := 26) C dX3_takeIn_26 ?_
      refine v_put (pc := 27) C (27, gi) (v := .int (((g 43 gi 0) + 1))) (ck_27 (g := (s3 g 44 gi (u).toNatClampNeg (1))) hg) rfl 5 (by decide) inX3 tyX3 tyX3_ok nmX3 wd_548 rfl (.inl (Value.int (((g 43 gi 0) + 1)))) rfl (ty := tyX3 5) (by decide +kernel) rfl rfl (Nat.le_of_ble_eq_true rfl) dX3_takeIn_27 ?_
      refine v_h (h2 := (w (s3 (s3 g 44 gi (u).toNatClampNeg (1)) 43 gi 0 (((g 43 gi 0) + 1))) r)) (u_27_5 (g := (s3 g 44 gi (u).toNatClampNeg (1))) hg) ?_
      exact v_vret (pc := 30) C (by decide) (by decide) dX3_takeIn_30 ⟨rfl, rfl, (congrArg (fun q => w q r) (by show _ = _; rw [S_X3_takeIn, if_neg c_1, if_neg c_2]))⟩
def S_X3_letGo (g : vS) (gi : Nat) (u : Int32) : vS := (if u < 0 then g else (if 6 ≤ u then g else (if 6 ≤ u then g else (s3 (s3 (s3 (s3 g 44 gi (u).toNatClampNeg (0)) 43 gi 0 (((g 43 gi 0) - 1))) 47 gi (u).toNatClampNeg (((g 42 gi 0) + 1))) 42 gi 0 (((g 42 gi 0) + 1))))))
theorem F_X3_letGo {g : vS} {gi : Nat} {u : Int32} {c i j : Nat} (h42 : c ≠ 42) (h43 : c ≠ 43) (h44 : c ≠ 44) (h47 : c ≠ 47) : S_X3_letGo g gi u c i j = g c i j := by
  unfold S_X3_letGo
  (repeat' split) <;> first | rfl | simp only [s3_k h42, s3_k h43, s3_k h44, s3_k h47]
set_option maxHeartbeats 4000000 in
set_option maxRecDepth 100000 in
theorem c_X3_letGo {G : vG} (hG : G.1.stackTraces = false) {A : vN → Nat} {g : vS} {r : vH} (gi : Nat) (u : Int32) (hg : g 104 gi 0 ≠ 0) : vCt G yX3_letGo cX3_letGo 2 none 0 [.ref (A (27, gi)), .int (u)] A (w g r) (fun v A2 h2 => v = none ∧ A2 = A ∧ h2 = w (S_X3_letGo g gi u) r) (vNoX) 0 0 := by
  refine v_of hG (by decide +kernel) (Nat.le_of_ble_eq_true rfl) (lv := [(0, .ref (A (27, gi))), (1, .int (u))]) rfl (fun X C hnx => ?_)
  have C : vC G X cX3_letGo 2 RX3 none "letGo" 0 0 0 := C
  refine v_iload_n (pc := 0) C dX3_letGo_0 1 rfl rfl ?_
  refine v_if_lt (pc := 1) (tgt := 61) C dX3_letGo_1 (by decide) (fun c_1 => ?_) (fun c_1 => ?_)
  · skip
    exact v_vret (pc := 61) C (by decide) (by decide) dX3_letGo_61 ⟨rfl, rfl, (congrArg (fun q => w q r) (by show _ = _; rw [S_X3_letGo, if_pos c_1]))⟩
  · skip
    refine v_iload_n (pc := 4) C dX3_letGo_4 1 rfl rfl ?_
    refine v_aload_n (pc := 5) C dX3_letGo_5 0 rfl rfl ?_
    refine v_get (pc := 6) C (27, gi) (v := .ref (A (28, gi))) (ck_27 (g := g) hg) rfl 6 (by decide) inX3 wd_550 rfl rfl dX3_letGo_6 ?_
    refine v_alen (pc := 9) C (28, gi) (v := 6) (ck_28 (g := g) hg) rfl (by decide) dX3_letGo_9 ?_
    refine v_icmp_ge (pc := 10) (tgt := 61) C dX3_letGo_10 (by decide) (fun c_2 => ?_) (fun c_2 => ?_)
    · skip
      exact v_vret (pc := 61) C (by decide) (by decide) dX3_letGo_61 ⟨rfl, rfl, (congrArg (fun q => w q r) (by show _ = _; rw [S_X3_letGo, if_neg c_1, if_pos c_2]))⟩
    · skip
      refine v_iload_n (pc := 13) C dX3_letGo_13 1 rfl rfl ?_
      refine v_aload_n (pc := 14) C dX3_letGo_14 0 rfl rfl ?_
      refine v_get (pc := 15) C (27, gi) (v := .ref (A (29, gi))) (ck_27 (g := g) hg) rfl 7 (by decide) inX3 wd_551 rfl rfl dX3_letGo_15 ?_
      refine v_alen (pc := 18) C (29, gi) (v := 6) (ck_29 (g := g) hg) rfl (by decide) dX3_letGo_18 ?_
      refine v_icmp_ge (pc := 19) (tgt := 61) C dX3_letGo_19 (by decide) (fun c_3 => ?_) (fun c_3 => ?_)
      · skip
        exact v_vret (pc := 61) C (by decide) (by decide) dX3_letGo_61 ⟨rfl, rfl, (congrArg (fun q => w q r) (by show _ = _; rw [S_X3_letGo, if_neg c_1, if_neg c_2, if_pos c_3]))⟩
      · skip
        refine v_aload_n (pc := 22) C dX3_letGo_22 0 rfl rfl ?_
        refine v_get (pc := 23) C (27, gi) (v := .ref (A (28, gi))) (ck_27 (g := g) hg) rfl 6 (by decide) inX3 wd_550 rfl rfl dX3_letGo_23 ?_
        refine v_iload_n (pc := 26) C dX3_letGo_26 1 rfl rfl ?_
        refine v_iconst (v := 0) (pc := 27) C dX3_letGo_27 rfl ?_
        refine v_zast (pc := 28) C (28, gi) (x := 0) (ck_28 (g := g) hg) (by (try simp only [Int32.le_iff_toInt_le, Int32.lt_iff_toInt_lt, ← Int32.toInt_inj, vp_in_iff] at c_1 c_2 c_3 ⊢) <;> (try simp at *) <;> omega) (by decide) dX3_letGo_28 ?_
        refine v_h (h2 := (w (s3 g 44 gi (u).toNatClampNeg (0)) r)) (u_28_a (g := g) hg) ?_
        refine v_aload_n (pc := 29) C dX3_letGo_29 0 rfl rfl ?_
        refine v_dup (pc := 30) C dX3_letGo_30 rfl ?_
        refine v_get (pc := 31) C (27, gi) (v := .int ((g 43 gi 0))) (ck_27 (g := (s3 g 44 gi (u).toNatClampNeg (0))) hg) rfl 5 (by decide) inX3 wd_548 rfl rfl dX3_letGo_31 ?_
        refine v_iconst (v := 1) (pc := 34) C dX3_letGo_34 rfl ?_
        refine v_isub (pc := 35) C dX3_letGo_35 ?_
        refine v_put (pc := 36) C (27, gi) (v := .int (((g 43 gi 0) - 1))) (ck_27 (g := (s3 g 44 gi (u).toNatClampNeg (0))) hg) rfl 5 (by decide) inX3 tyX3 tyX3_ok nmX3 wd_548 rfl (.inl (Value.int (((g 43 gi 0) - 1)))) rfl (ty := tyX3 5) (by decide +kernel) rfl rfl (Nat.le_of_ble_eq_true rfl) dX3_letGo_36 ?_
        refine v_h (h2 := (w (s3 (s3 g 44 gi (u).toNatClampNeg (0)) 43 gi 0 (((g 43 gi 0) - 1))) r)) (u_27_5 (g := (s3 g 44 gi (u).toNatClampNeg (0))) hg) ?_
        refine v_aload_n (pc := 39) C dX3_letGo_39 0 rfl rfl ?_
        refine v_get (pc := 40) C (27, gi) (v := .ref (A (29, gi))) (ck_27 (g := (s3 (s3 g 44 gi (u).toNatClampNeg (0)) 43 gi 0 (((g 43 gi 0) - 1)))) hg) rfl 7 (by decide) inX3 wd_551 rfl rfl dX3_letGo_40 ?_
        refine v_iload_n (pc := 43) C dX3_letGo_43 1 rfl rfl ?_
        refine v_aload_n (pc := 44) C dX3_letGo_44 0 rfl rfl ?_
        refine v_get (pc := 45) C (27, gi) (v := .int ((g 42 gi 0))) (ck_27 (g := (s3 (s3 g 44 gi (u).toNatClampNeg (0)) 43 gi 0 (((g 43 gi 0) - 1)))) hg) rfl 4 (by decide) inX3 wd_546 rfl rfl dX3_letGo_45 ?_
        refine v_iconst (v := 1) (pc := 48) C dX3_letGo_48 rfl ?_
        refine v_iadd (pc := 49) C dX3_letGo_49 ?_
        refine v_iast (pc := 50) C (29, gi) (x := ((g 42 gi 0) + 1)) (ck_29 (g := (s3 (s3 g 44 gi (u).toNatClampNeg (0)) 43 gi 0 (((g 43 gi 0) - 1)))) hg) (by (try simp only [Int32.le_iff_toInt_le, Int32.lt_iff_toInt_lt, ← Int32.toInt_inj, vp_in_iff] at c_1 c_2 c_3 ⊢) <;> (try simp at *) <;> omega) dX3_letGo_50 ?_
        refine v_h (h2 := (w (s3 (s3 (s3 g 44 gi (u).toNatClampNeg (0)) 43 gi 0 (((g 43 gi 0) - 1))) 47 gi (u).toNatClampNeg (((g 42 gi 0) + 1))) r)) (u_29_a (g := (s3 (s3 g 44 gi (u).toNatClampNeg (0)) 43 gi 0 (((g 43 gi 0) - 1)))) hg) ?_
        refine v_aload_n (pc := 51) C dX3_letGo_51 0 rfl rfl ?_
        refine v_dup (pc := 52) C dX3_letGo_52 rfl ?_
        refine v_get (pc := 53) C (27, gi) (v := .int ((g 42 gi 0))) (ck_27 (g := (s3 (s3 (s3 g 44 gi (u).toNatClampNeg (0)) 43 gi 0 (((g 43 gi 0) - 1))) 47 gi (u).toNatClampNeg (((g 42 gi 0) + 1)))) hg) rfl 4 (by decide) inX3 wd_546 rfl rfl dX3_letGo_53 ?_
        refine v_iconst (v := 1) (pc := 56) C dX3_letGo_56 rfl ?_
        refine v_iadd (pc := 57) C dX3_letGo_57 ?_
        refine v_put (pc := 58) C (27, gi) (v := .int (((g 42 gi 0) + 1))) (ck_27 (g := (s3 (s3 (s3 g 44 gi (u).toNatClampNeg (0)) 43 gi 0 (((g 43 gi 0) - 1))) 47 gi (u).toNatClampNeg (((g 42 gi 0) + 1)))) hg) rfl 4 (by decide) inX3 tyX3 tyX3_ok nmX3 wd_546 rfl (.inl (Value.int (((g 42 gi 0) + 1)))) rfl (ty := tyX3 4) (by decide +kernel) rfl rfl (Nat.le_of_ble_eq_true rfl) dX3_letGo_58 ?_
        refine v_h (h2 := (w (s3 (s3 (s3 (s3 g 44 gi (u).toNatClampNeg (0)) 43 gi 0 (((g 43 gi 0) - 1))) 47 gi (u).toNatClampNeg (((g 42 gi 0) + 1))) 42 gi 0 (((g 42 gi 0) + 1))) r)) (u_27_4 (g := (s3 (s3 (s3 g 44 gi (u).toNatClampNeg (0)) 43 gi 0 (((g 43 gi 0) - 1))) 47 gi (u).toNatClampNeg (((g 42 gi 0) + 1)))) hg) ?_
        exact v_vret (pc := 61) C (by decide) (by decide) dX3_letGo_61 ⟨rfl, rfl, (congrArg (fun q => w q r) (by show _ = _; rw [S_X3_letGo, if_neg c_1, if_neg c_2, if_neg c_3]))⟩
def V_X3_latestKnownTo (g : vS) (gi : Nat) (u : Int32) : Int32 := (if (V_X3_hasMember g (gi) (u)) = 0 then (if u < 0 then -1 else (if 6 ≤ u then -1 else ((g 47 gi (u).toNatClampNeg) - 1))) else (g 42 gi 0))
set_option maxHeartbeats 4000000 in
set_option maxRecDepth 100000 in
theorem c_X3_latestKnownTo {G : vG} (hG : G.1.stackTraces = false) {A : vN → Nat} {g : vS} {r : vH} (gi : Nat) (u : Int32) (hg : g 104 gi 0 ≠ 0) : vCt G yX3_latestKnownTo cX3_latestKnownTo 2 (some .int) 1 [.ref (A (27, gi)), .int (u)] A (w g r) (fun v A2 h2 => v = some (.int (V_X3_latestKnownTo g gi u)) ∧ A2 = A ∧ h2 = w g r) (vNoX) 0 0 := by
  refine v_of hG (by decide +kernel) (Nat.le_of_ble_eq_true rfl) (lv := [(0, .ref (A (27, gi))), (1, .int (u))]) rfl (fun X C hnx => ?_)
  have C : vC G X cX3_latestKnownTo 2 RX3 (some .int) "latestKnownTo" 1 0 0 := C
  refine v_aload_n (pc := 0) C dX3_latestKnownTo_0 0 rfl rfl ?_
  refine v_iload_n (pc := 1) C dX3_latestKnownTo_1 1 rfl rfl ?_
  refine v_callV (pc := 2) C (27, gi) (ck_27 (g := g) hg) rfl (c_X3_hasMember hG (gi) (u) hg) 1 wd_349 wd_77 wd_346 wd_347 wd_348 (by decide +kernel) (by decide) (by decide) rfl ([]) rfl (by decide) (by decide) dX3_latestKnownTo_2 (fun _ _ _ q => q.elim) (fun v9 A9 h9 hR9 => ?_)
  obtain ⟨rfl, hA9, rfl⟩ := hR9
  obtain rfl := hA9.symm
  refine v_st (k2 := 0) (n2 := 0) (st2 := [.int ((V_X3_hasMember g (gi) (u)))]) rfl rfl rfl ?_
  refine v_if_eq (pc := 5) (tgt := 13) C dX3_latestKnownTo_5 (by decide) (fun c_1 => ?_) (fun c_1 => ?_)
  · skip
    refine v_iload_n (pc := 13) C dX3_latestKnownTo_13 1 rfl rfl ?_
    refine v_if_lt (pc := 14) (tgt := 37) C dX3_latestKnownTo_14 (by decide) (fun c_2 => ?_) (fun c_2 => ?_)
    · skip
      refine v_iconst (v := -1) (pc := 37) C dX3_latestKnownTo_37 rfl ?_
      exact v_iret (pc := 38) C (by decide) (by decide) dX3_latestKnownTo_38 ⟨(congrArg (fun q => some (Value.int q)) (by show _ = _; rw [V_X3_latestKnownTo, if_pos c_1, if_pos c_2])), rfl, rfl⟩
    · skip
      refine v_iload_n (pc := 17) C dX3_latestKnownTo_17 1 rfl rfl ?_
      refine v_aload_n (pc := 18) C dX3_latestKnownTo_18 0 rfl rfl ?_
      refine v_get (pc := 19) C (27, gi) (v := .ref (A (29, gi))) (ck_27 (g := g) hg) rfl 7 (by decide) inX3 wd_551 rfl rfl dX3_latestKnownTo_19 ?_
      refine v_alen (pc := 22) C (29, gi) (v := 6) (ck_29 (g := g) hg) rfl (by decide) dX3_latestKnownTo_22 ?_
      refine v_icmp_ge (pc := 23) (tgt := 37) C dX3_latestKnownTo_23 (by decide) (fun c_3 => ?_) (fun c_3 => ?_)
      · skip
        refine v_iconst (v := -1) (pc := 37) C dX3_latestKnownTo_37 rfl ?_
        exact v_iret (pc := 38) C (by decide) (by decide) dX3_latestKnownTo_38 ⟨(congrArg (fun q => some (Value.int q)) (by show _ = _; rw [V_X3_latestKnownTo, if_pos c_1, if_neg c_2, if_pos c_3])), rfl, rfl⟩
      · skip
        refine v_aload_n (pc := 26) C dX3_latestKnownTo_26 0 rfl rfl ?_
        refine v_get (pc := 27) C (27, gi) (v := .ref (A (29, gi))) (ck_27 (g := g) hg) rfl 7 (by decide) inX3 wd_551 rfl rfl dX3_latestKnownTo_27 ?_
        refine v_iload_n (pc := 30) C dX3_latestKnownTo_30 1 rfl rfl ?_
        refine v_iald (pc := 31) C (29, gi) (v := (g 47 gi (u).toNatClampNeg)) (ck_29 (g := g) hg) (by (try simp only [Int32.le_iff_toInt_le, Int32.lt_iff_toInt_lt, ← Int32.toInt_inj, vp_in_iff] at c_1 c_2 c_3 ⊢) <;> (try simp at *) <;> omega) rfl dX3_latestKnownTo_31 ?_
        refine v_iconst (v := 1) (pc := 32) C dX3_latestKnownTo_32 rfl ?_
        refine v_isub (pc := 33) C dX3_latestKnownTo_33 ?_
        refine v_goto (tgt := 38) (pc := 34) C dX3_latestKnownTo_34 (by decide) ?_
        exact v_iret (pc := 38) C (by decide) (by decide) dX3_latestKnownTo_38 ⟨(congrArg (fun q => some (Value.int q)) (by show _ = _; rw [V_X3_latestKnownTo, if_pos c_1, if_neg c_2, if_neg c_3])), rfl, rfl⟩
  · skip
    refine v_aload_n (pc := 8) C dX3_latestKnownTo_8 0 rfl rfl ?_
    refine v_get (pc := 9) C (27, gi) (v := .int ((g 42 gi 0))) (ck_27 (g := g) hg) rfl 4 (by decide) inX3 wd_546 rfl rfl dX3_latestKnownTo_9 ?_
    exact v_iret (pc := 12) C (by decide) (by decide) dX3_latestKnownTo_12 ⟨(congrArg (fun q => some (Value.int q)) (by show _ = _; rw [V_X3_latestKnownTo, if_neg c_1])), rfl, rfl⟩
def V_X3_tokenOf (g : vS) (gi : Nat) (e : Int32) (wd : Int32) : Int32 := pMix (pMix ((g 46 gi 0)) (e)) (wd)
set_option maxHeartbeats 4000000 in
set_option maxRecDepth 100000 in
theorem c_X3_tokenOf {G : vG} (hG : G.1.stackTraces = false) {A : vN → Nat} {g : vS} {r : vH} (gi : Nat) (e : Int32) (wd : Int32) (hg : g 104 gi 0 ≠ 0) : vCt G yX3_tokenOf cX3_tokenOf 3 (some .int) 2 [.ref (A (27, gi)), .int (e), .int (wd)] A (w g r) (fun v A2 h2 => v = some (.int (V_X3_tokenOf g gi e wd)) ∧ A2 = A ∧ h2 = w g r) (vNoX) 0 0 := by
  refine v_of hG (by decide +kernel) (Nat.le_of_ble_eq_true rfl) (lv := [(0, .ref (A (27, gi))), (1, .int (e)), (2, .int (wd))]) rfl (fun X C hnx => ?_)
  have C : vC G X cX3_tokenOf 3 RX3 (some .int) "tokenOf" 2 0 0 := C
  refine v_aload_n (pc := 0) C dX3_tokenOf_0 0 rfl rfl ?_
  refine v_get (pc := 1) C (27, gi) (v := .int ((g 46 gi 0))) (ck_27 (g := g) hg) rfl 3 (by decide) inX3 wd_544 rfl rfl dX3_tokenOf_1 ?_
  refine v_iload_n (pc := 4) C dX3_tokenOf_4 1 rfl rfl ?_
  refine v_callS (pc := 5) C (c_X0_mix hG ((g 46 gi 0)) (e)) 2 wd_313 wd_78 wd_537 wd_312 (by decide +kernel) (by decide) (by decide) rfl ([]) rfl (by decide) (by decide) dX3_tokenOf_5 (fun _ _ _ q => q.elim) (fun v9 A9 h9 hR9 => ?_)
  obtain ⟨rfl, hA9, rfl⟩ := hR9
  obtain rfl := hA9.symm
  refine v_st (k2 := 0) (n2 := 0) (st2 := [.int (pMix ((g 46 gi 0)) (e))]) rfl rfl rfl ?_
  refine v_iload_n (pc := 8) C dX3_tokenOf_8 2 rfl rfl ?_
  refine v_callS (pc := 9) C (c_X0_mix hG (pMix ((g 46 gi 0)) (e)) (wd)) 2 wd_313 wd_78 wd_537 wd_312 (by decide +kernel) (by decide) (by decide) rfl ([]) rfl (by decide) (by decide) dX3_tokenOf_9 (fun _ _ _ q => q.elim) (fun v9 A9 h9 hR9 => ?_)
  obtain ⟨rfl, hA9, rfl⟩ := hR9
  obtain rfl := hA9.symm
  refine v_st (k2 := 0) (n2 := 0) (st2 := [.int (pMix (pMix ((g 46 gi 0)) (e)) (wd))]) rfl rfl rfl ?_
  exact v_iret (pc := 12) C (by decide) (by decide) dX3_tokenOf_12 ⟨(congrArg (fun q => some (Value.int q)) (by show _ = _; rw [V_X3_tokenOf])), rfl, rfl⟩
def V_X5_count (g : vS)  : Int32 := (g 4 0 0)
set_option maxHeartbeats 4000000 in
set_option maxRecDepth 100000 in
theorem c_X5_count {G : vG} (hG : G.1.stackTraces = false) {A : vN → Nat} {g : vS} {r : vH}   : vCt G yX5_count cX5_count 1 (some .int) 0 [.ref (A (4, 0))] A (w g r) (fun v A2 h2 => v = some (.int (V_X5_count g)) ∧ A2 = A ∧ h2 = w g r) (vNoX) 0 0 := by
  refine v_of hG (by decide +kernel) (Nat.le_of_ble_eq_true rfl) (lv := [(0, .ref (A (4, 0)))]) rfl (fun X C hnx => ?_)
  have C : vC G X cX5_count 1 RX5 (some .int) "count" 0 0 0 := C
  refine v_aload_n (pc := 0) C dX5_count_0 0 rfl rfl ?_
  refine v_get (pc := 1) C (4, 0) (v := .int ((g 4 0 0))) ck_4 rfl 2 (by decide) inX5 wd_112 rfl rfl dX5_count_1 ?_
  exact v_iret (pc := 4) C (by decide) (by decide) dX5_count_4 ⟨(congrArg (fun q => some (Value.int q)) (by show _ = _; rw [V_X5_count])), rfl, rfl⟩
def V_X5_isFull (g : vS)  : Int32 := (if (g 4 0 0) < 300 then 0 else 1)
set_option maxHeartbeats 4000000 in
set_option maxRecDepth 100000 in
theorem c_X5_isFull {G : vG} (hG : G.1.stackTraces = false) {A : vN → Nat} {g : vS} {r : vH}   : vCt G yX5_isFull cX5_isFull 1 (some .boolean) 0 [.ref (A (4, 0))] A (w g r) (fun v A2 h2 => v = some (.int (V_X5_isFull g)) ∧ A2 = A ∧ h2 = w g r) (vNoX) 0 0 := by
  refine v_of hG (by decide +kernel) (Nat.le_of_ble_eq_true rfl) (lv := [(0, .ref (A (4, 0)))]) rfl (fun X C hnx => ?_)
  have C : vC G X cX5_isFull 1 RX5 (some .boolean) "isFull" 0 0 0 := C
  refine v_aload_n (pc := 0) C dX5_isFull_0 0 rfl rfl ?_
  refine v_get (pc := 1) C (4, 0) (v := .int ((g 4 0 0))) ck_4 rfl 2 (by decide) inX5 wd_112 rfl rfl dX5_isFull_1 ?_
  refine v_sipush (v := 300) (pc := 4) C dX5_isFull_4 (by decide) ?_
  refine v_icmp_lt (pc := 7) (tgt := 14) C dX5_isFull_7 (by decide) (fun c_1 => ?_) (fun c_1 => ?_)
  · skip
    refine v_iconst (v := 0) (pc := 14) C dX5_isFull_14 rfl ?_
    exact v_zret (pc := 15) C rfl (by decide) (by decide) dX5_isFull_15 ⟨(congrArg (fun q => some (Value.int q)) (by show _ = _; rw [V_X5_isFull, if_pos c_1])), rfl, rfl⟩
  · skip
    refine v_iconst (v := 1) (pc := 10) C dX5_isFull_10 rfl ?_
    refine v_goto (tgt := 15) (pc := 11) C dX5_isFull_11 (by decide) ?_
    exact v_zret (pc := 15) C rfl (by decide) (by decide) dX5_isFull_15 ⟨(congrArg (fun q => some (Value.int q)) (by show _ = _; rw [V_X5_isFull, if_neg c_1])), rfl, rfl⟩
def S_X5_append (g : vS) (x : Int32) : vS := (if (g 4 0 0) < 0 then g else (if 300 ≤ (g 4 0 0) then g else (s3 (s3 g 80 ((g 4 0 0)).toNatClampNeg 0 (x)) 4 0 0 (((g 4 0 0) + 1)))))
theorem F_X5_append {g : vS} {x : Int32} {c i j : Nat} (h4 : c ≠ 4) (h80 : c ≠ 80) : S_X5_append g x c i j = g c i j := by
  unfold S_X5_append
  (repeat' split) <;> first | rfl | simp only [s3_k h4, s3_k h80]
set_option maxHeartbeats 4000000 in
set_option maxRecDepth 100000 in
theorem c_X5_append {G : vG} (hG : G.1.stackTraces = false) {A : vN → Nat} {g : vS} {r : vH} (x : Int32)  : vCt G yX5_append cX5_append 2 none 0 [.ref (A (4, 0)), .int (x)] A (w g r) (fun v A2 h2 => v = none ∧ A2 = A ∧ h2 = w (S_X5_append g x) r) (vNoX) 0 0 := by
  refine v_of hG (by decide +kernel) (Nat.le_of_ble_eq_true rfl) (lv := [(0, .ref (A (4, 0))), (1, .int (x))]) rfl (fun X C hnx => ?_)
  have C : vC G X cX5_append 2 RX5 none "append" 0 0 0 := C
  refine v_aload_n (pc := 0) C dX5_append_0 0 rfl rfl ?_
  refine v_get (pc := 1) C (4, 0) (v := .int ((g 4 0 0))) ck_4 rfl 2 (by decide) inX5 wd_112 rfl rfl dX5_append_1 ?_
  refine v_if_lt (pc := 4) (tgt := 37) C dX5_append_4 (by decide) (fun c_1 => ?_) (fun c_1 => ?_)
  · skip
    exact v_vret (pc := 37) C (by decide) (by decide) dX5_append_37 ⟨rfl, rfl, (congrArg (fun q => w q r) (by show _ = _; rw [S_X5_append, if_pos c_1]))⟩
  · skip
    refine v_aload_n (pc := 7) C dX5_append_7 0 rfl rfl ?_
    refine v_get (pc := 8) C (4, 0) (v := .int ((g 4 0 0))) ck_4 rfl 2 (by decide) inX5 wd_112 rfl rfl dX5_append_8 ?_
    refine v_sipush (v := 300) (pc := 11) C dX5_append_11 (by decide) ?_
    refine v_icmp_ge (pc := 14) (tgt := 37) C dX5_append_14 (by decide) (fun c_2 => ?_) (fun c_2 => ?_)
    · skip
      exact v_vret (pc := 37) C (by decide) (by decide) dX5_append_37 ⟨rfl, rfl, (congrArg (fun q => w q r) (by show _ = _; rw [S_X5_append, if_neg c_1, if_pos c_2]))⟩
    · skip
      refine v_aload_n (pc := 17) C dX5_append_17 0 rfl rfl ?_
      refine v_get (pc := 18) C (4, 0) (v := .ref (A (5, 0))) ck_4 rfl 0 (by decide) inX5 wd_110 rfl rfl dX5_append_18 ?_
      refine v_aload_n (pc := 21) C dX5_append_21 0 rfl rfl ?_
      refine v_get (pc := 22) C (4, 0) (v := .int ((g 4 0 0))) ck_4 rfl 2 (by decide) inX5 wd_112 rfl rfl dX5_append_22 ?_
      refine v_iload_n (pc := 25) C dX5_append_25 1 rfl rfl ?_
      refine v_iast (pc := 26) C (5, 0) (x := x) ck_5 (by (try simp only [Int32.le_iff_toInt_le, Int32.lt_iff_toInt_lt, ← Int32.toInt_inj, vp_in_iff] at c_1 c_2 ⊢) <;> (try simp at *) <;> omega) dX5_append_26 ?_
      refine v_h (h2 := (w (s3 g 80 ((g 4 0 0)).toNatClampNeg 0 (x)) r)) (u_5_a) ?_
      refine v_aload_n (pc := 27) C dX5_append_27 0 rfl rfl ?_
      refine v_dup (pc := 28) C dX5_append_28 rfl ?_
      refine v_get (pc := 29) C (4, 0) (v := .int ((g 4 0 0))) ck_4 rfl 2 (by decide) inX5 wd_112 rfl rfl dX5_append_29 ?_
      refine v_iconst (v := 1) (pc := 32) C dX5_append_32 rfl ?_
      refine v_iadd (pc := 33) C dX5_append_33 ?_
      refine v_put (pc := 34) C (4, 0) (v := .int (((g 4 0 0) + 1))) ck_4 rfl 2 (by decide) inX5 tyX5 tyX5_ok nmX5 wd_112 rfl (.inl (Value.int (((g 4 0 0) + 1)))) rfl (ty := tyX5 2) (by decide +kernel) rfl rfl (Nat.le_of_ble_eq_true rfl) dX5_append_34 ?_
      refine v_h (h2 := (w (s3 (s3 g 80 ((g 4 0 0)).toNatClampNeg 0 (x)) 4 0 0 (((g 4 0 0) + 1))) r)) (u_4_2) ?_
      exact v_vret (pc := 37) C (by decide) (by decide) dX5_append_37 ⟨rfl, rfl, (congrArg (fun q => w q r) (by show _ = _; rw [S_X5_append, if_neg c_1, if_neg c_2]))⟩
def V_X5_leafAt (g : vS) (x : Int32) : Int32 := (if x < 0 then 0 else (if 300 ≤ x then 0 else (g 80 (x).toNatClampNeg 0)))
set_option maxHeartbeats 4000000 in
set_option maxRecDepth 100000 in
theorem c_X5_leafAt {G : vG} (hG : G.1.stackTraces = false) {A : vN → Nat} {g : vS} {r : vH} (x : Int32)  : vCt G yX5_leafAt cX5_leafAt 2 (some .int) 0 [.ref (A (4, 0)), .int (x)] A (w g r) (fun v A2 h2 => v = some (.int (V_X5_leafAt g x)) ∧ A2 = A ∧ h2 = w g r) (vNoX) 0 0 := by
  refine v_of hG (by decide +kernel) (Nat.le_of_ble_eq_true rfl) (lv := [(0, .ref (A (4, 0))), (1, .int (x))]) rfl (fun X C hnx => ?_)
  have C : vC G X cX5_leafAt 2 RX5 (some .int) "leafAt" 0 0 0 := C
  refine v_iload_n (pc := 0) C dX5_leafAt_0 1 rfl rfl ?_
  refine v_if_lt (pc := 1) (tgt := 22) C dX5_leafAt_1 (by decide) (fun c_1 => ?_) (fun c_1 => ?_)
  · skip
    refine v_iconst (v := 0) (pc := 22) C dX5_leafAt_22 rfl ?_
    exact v_iret (pc := 23) C (by decide) (by decide) dX5_leafAt_23 ⟨(congrArg (fun q => some (Value.int q)) (by show _ = _; rw [V_X5_leafAt, if_pos c_1])), rfl, rfl⟩
  · skip
    refine v_iload_n (pc := 4) C dX5_leafAt_4 1 rfl rfl ?_
    refine v_aload_n (pc := 5) C dX5_leafAt_5 0 rfl rfl ?_
    refine v_get (pc := 6) C (4, 0) (v := .ref (A (5, 0))) ck_4 rfl 0 (by decide) inX5 wd_110 rfl rfl dX5_leafAt_6 ?_
    refine v_alen (pc := 9) C (5, 0) (v := 300) ck_5 rfl (by decide) dX5_leafAt_9 ?_
    refine v_icmp_ge (pc := 10) (tgt := 22) C dX5_leafAt_10 (by decide) (fun c_2 => ?_) (fun c_2 => ?_)
    · skip
      refine v_iconst (v := 0) (pc := 22) C dX5_leafAt_22 rfl ?_
      exact v_iret (pc := 23) C (by decide) (by decide) dX5_leafAt_23 ⟨(congrArg (fun q => some (Value.int q)) (by show _ = _; rw [V_X5_leafAt, if_neg c_1, if_pos c_2])), rfl, rfl⟩
    · skip
      refine v_aload_n (pc := 13) C dX5_leafAt_13 0 rfl rfl ?_
      refine v_get (pc := 14) C (4, 0) (v := .ref (A (5, 0))) ck_4 rfl 0 (by decide) inX5 wd_110 rfl rfl dX5_leafAt_14 ?_
      refine v_iload_n (pc := 17) C dX5_leafAt_17 1 rfl rfl ?_
      refine v_iald (pc := 18) C (5, 0) (v := (g 80 (x).toNatClampNeg 0)) ck_5 (by (try simp only [Int32.le_iff_toInt_le, Int32.lt_iff_toInt_lt, ← Int32.toInt_inj, vp_in_iff] at c_1 c_2 ⊢) <;> (try simp at *) <;> omega) rfl dX5_leafAt_18 ?_
      refine v_goto (tgt := 23) (pc := 19) C dX5_leafAt_19 (by decide) ?_
      exact v_iret (pc := 23) C (by decide) (by decide) dX5_leafAt_23 ⟨(congrArg (fun q => some (Value.int q)) (by show _ = _; rw [V_X5_leafAt, if_neg c_1, if_neg c_2])), rfl, rfl⟩
def V_X5_cutTo (g : vS) (x : Int32) : Int32 := ((g 4 0 0) - x)
def S_X5_cutTo (g : vS) (x : Int32) : vS := (s3 g 4 0 0 (x))
theorem F_X5_cutTo {g : vS} {x : Int32} {c i j : Nat} (h4 : c ≠ 4) : S_X5_cutTo g x c i j = g c i j := by
  unfold S_X5_cutTo
  (repeat' split) <;> first | rfl | simp only [s3_k h4]
set_option maxHeartbeats 4000000 in
set_option maxRecDepth 100000 in
theorem c_X5_cutTo {G : vG} (hG : G.1.stackTraces = false) {A : vN → Nat} {g : vS} {r : vH} (x : Int32)  : vCt G yX5_cutTo cX5_cutTo 3 (some .int) 0 [.ref (A (4, 0)), .int (x)] A (w g r) (fun v A2 h2 => v = some (.int (V_X5_cutTo g x)) ∧ A2 = A ∧ h2 = w (S_X5_cutTo g x) r) (vNoX) 0 0 := by
  refine v_of hG (by decide +kernel) (Nat.le_of_ble_eq_true rfl) (lv := [(0, .ref (A (4, 0))), (1, .int (x))]) rfl (fun X C hnx => ?_)
  have C : vC G X cX5_cutTo 3 RX5 (some .int) "cutTo" 0 0 0 := C
  refine v_aload_n (pc := 0) C dX5_cutTo_0 0 rfl rfl ?_
  refine v_get (pc := 1) C (4, 0) (v := .int ((g 4 0 0))) ck_4 rfl 2 (by decide) inX5 wd_112 rfl rfl dX5_cutTo_1 ?_
  refine v_iload_n (pc := 4) C dX5_cutTo_4 1 rfl rfl ?_
  refine v_isub (pc := 5) C dX5_cutTo_5 ?_
  refine v_istore_n (lv2 := [(2, .int (((g 4 0 0) - x))), (0, .ref (A (4, 0))), (1, .int (x))]) (pc := 6) C dX5_cutTo_6 rfl (by decide) rfl ?_
  refine v_aload_n (pc := 7) C dX5_cutTo_7 1 rfl rfl ?_
  refine v_iload_n (pc := 8) C dX5_cutTo_8 2 rfl rfl ?_
  refine v_put (pc := 9) C (4, 0) (v := .int (x)) ck_4 rfl 2 (by decide) inX5 tyX5 tyX5_ok nmX5 wd_112 rfl (.inl (Value.int (x))) rfl (ty := tyX5 2) (by decide +kernel) rfl rfl (Nat.le_of_ble_eq_true rfl) dX5_cutTo_9 ?_
  refine v_h (h2 := (w (s3 g 4 0 0 (x)) r)) (u_4_2) ?_
  refine v_iload_n (pc := 12) C dX5_cutTo_12 0 rfl rfl ?_
  exact v_iret (pc := 13) C (by decide) (by decide) dX5_cutTo_13 ⟨(congrArg (fun q => some (Value.int q)) (by show _ = _; rw [V_X5_cutTo])), rfl, (congrArg (fun q => w q r) (by show _ = _; rw [S_X5_cutTo]))⟩
def V_X5_rowAt (g : vS) (x : Int32) : Int32 := (if (((g 15 0 0) - 1) - x) < 0 then 0 else (if 13 ≤ (((g 15 0 0) - 1) - x) then 0 else (g 81 ((((g 15 0 0) - 1) - x)).toNatClampNeg 0)))
set_option maxHeartbeats 4000000 in
set_option maxRecDepth 100000 in
theorem c_X5_rowAt {G : vG} (hG : G.1.stackTraces = false) {A : vN → Nat} {g : vS} {r : vH} (x : Int32)  : vCt G yX5_rowAt cX5_rowAt 3 (some .int) 0 [.ref (A (4, 0)), .int (x)] A (w g r) (fun v A2 h2 => v = some (.int (V_X5_rowAt g x)) ∧ A2 = A ∧ h2 = w g r) (vNoX) 0 0 := by
  refine v_of hG (by decide +kernel) (Nat.le_of_ble_eq_true rfl) (lv := [(0, .ref (A (4, 0))), (1, .int (x))]) rfl (fun X C hnx => ?_)
  have C : vC G X cX5_rowAt 3 RX5 (some .int) "rowAt" 0 0 0 := C
  refine v_aload_n (pc := 0) C dX5_rowAt_0 0 rfl rfl ?_
  refine v_get (pc := 1) C (4, 0) (v := .int ((g 15 0 0))) ck_4 rfl 3 (by decide) inX5 wd_113 rfl rfl dX5_rowAt_1 ?_
  refine v_iconst (v := 1) (pc := 4) C dX5_rowAt_4 rfl ?_
  refine v_isub (pc := 5) C dX5_rowAt_5 ?_
  refine v_iload_n (pc := 6) C dX5_rowAt_6 1 rfl rfl ?_
  refine v_isub (pc := 7) C dX5_rowAt_7 ?_
  refine v_istore_n (lv2 := [(2, .int ((((g 15 0 0) - 1) - x))), (0, .ref (A (4, 0))), (1, .int (x))]) (pc := 8) C dX5_rowAt_8 rfl (by decide) rfl ?_
  refine v_iload_n (pc := 9) C dX5_rowAt_9 0 rfl rfl ?_
  refine v_if_lt (pc := 10) (tgt := 31) C dX5_rowAt_10 (by decide) (fun c_1 => ?_) (fun c_1 => ?_)
  · skip
    refine v_iconst (v := 0) (pc := 31) C dX5_rowAt_31 rfl ?_
    exact v_iret (pc := 32) C (by decide) (by decide) dX5_rowAt_32 ⟨(congrArg (fun q => some (Value.int q)) (by show _ = _; rw [V_X5_rowAt, if_pos c_1])), rfl, rfl⟩
  · skip
    refine v_iload_n (pc := 13) C dX5_rowAt_13 0 rfl rfl ?_
    refine v_aload_n (pc := 14) C dX5_rowAt_14 1 rfl rfl ?_
    refine v_get (pc := 15) C (4, 0) (v := .ref (A (6, 0))) ck_4 rfl 1 (by decide) inX5 wd_111 rfl rfl dX5_rowAt_15 ?_
    refine v_alen (pc := 18) C (6, 0) (v := 13) ck_6 rfl (by decide) dX5_rowAt_18 ?_
    refine v_icmp_ge (pc := 19) (tgt := 31) C dX5_rowAt_19 (by decide) (fun c_2 => ?_) (fun c_2 => ?_)
    · skip
      refine v_iconst (v := 0) (pc := 31) C dX5_rowAt_31 rfl ?_
      exact v_iret (pc := 32) C (by decide) (by decide) dX5_rowAt_32 ⟨(congrArg (fun q => some (Value.int q)) (by show _ = _; rw [V_X5_rowAt, if_neg c_1, if_pos c_2])), rfl, rfl⟩
    · skip
      refine v_aload_n (pc := 22) C dX5_rowAt_22 1 rfl rfl ?_
      refine v_get (pc := 23) C (4, 0) (v := .ref (A (6, 0))) ck_4 rfl 1 (by decide) inX5 wd_111 rfl rfl dX5_rowAt_23 ?_
      refine v_iload_n (pc := 26) C dX5_rowAt_26 0 rfl rfl ?_
      refine v_iald (pc := 27) C (6, 0) (v := (g 81 ((((g 15 0 0) - 1) - x)).toNatClampNeg 0)) ck_6 (by (try simp only [Int32.le_iff_toInt_le, Int32.lt_iff_toInt_lt, ← Int32.toInt_inj, vp_in_iff] at c_1 c_2 ⊢) <;> (try simp at *) <;> omega) rfl dX5_rowAt_27 ?_
      refine v_goto (tgt := 32) (pc := 28) C dX5_rowAt_28 (by decide) ?_
      exact v_iret (pc := 32) C (by decide) (by decide) dX5_rowAt_32 ⟨(congrArg (fun q => some (Value.int q)) (by show _ = _; rw [V_X5_rowAt, if_neg c_1, if_neg c_2])), rfl, rfl⟩
def S_X5_addToRow (g : vS) (x : Int32) : vS := (if (g 15 0 0) < 0 then g else (if 13 ≤ (g 15 0 0) then g else (s3 (s3 g 81 ((g 15 0 0)).toNatClampNeg 0 (x)) 15 0 0 (((g 15 0 0) + 1)))))
theorem F_X5_addToRow {g : vS} {x : Int32} {c i j : Nat} (h15 : c ≠ 15) (h81 : c ≠ 81) : S_X5_addToRow g x c i j = g c i j := by
  unfold S_X5_addToRow
  (repeat' split) <;> first | rfl | simp only [s3_k h15, s3_k h81]
set_option maxHeartbeats 4000000 in
set_option maxRecDepth 100000 in
theorem c_X5_addToRow {G : vG} (hG : G.1.stackTraces = false) {A : vN → Nat} {g : vS} {r : vH} (x : Int32)  : vCt G yX5_addToRow cX5_addToRow 2 none 0 [.ref (A (4, 0)), .int (x)] A (w g r) (fun v A2 h2 => v = none ∧ A2 = A ∧ h2 = w (S_X5_addToRow g x) r) (vNoX) 0 0 := by
  refine v_of hG (by decide +kernel) (Nat.le_of_ble_eq_true rfl) (lv := [(0, .ref (A (4, 0))), (1, .int (x))]) rfl (fun X C hnx => ?_)
  have C : vC G X cX5_addToRow 2 RX5 none "addToRow" 0 0 0 := C
  refine v_aload_n (pc := 0) C dX5_addToRow_0 0 rfl rfl ?_
  refine v_get (pc := 1) C (4, 0) (v := .int ((g 15 0 0))) ck_4 rfl 3 (by decide) inX5 wd_113 rfl rfl dX5_addToRow_1 ?_
  refine v_if_lt (pc := 4) (tgt := 39) C dX5_addToRow_4 (by decide) (fun c_1 => ?_) (fun c_1 => ?_)
  · skip
    exact v_vret (pc := 39) C (by decide) (by decide) dX5_addToRow_39 ⟨rfl, rfl, (congrArg (fun q => w q r) (by show _ = _; rw [S_X5_addToRow, if_pos c_1]))⟩
  · skip
    refine v_aload_n (pc := 7) C dX5_addToRow_7 0 rfl rfl ?_
    refine v_get (pc := 8) C (4, 0) (v := .int ((g 15 0 0))) ck_4 rfl 3 (by decide) inX5 wd_113 rfl rfl dX5_addToRow_8 ?_
    refine v_aload_n (pc := 11) C dX5_addToRow_11 0 rfl rfl ?_
    refine v_get (pc := 12) C (4, 0) (v := .ref (A (6, 0))) ck_4 rfl 1 (by decide) inX5 wd_111 rfl rfl dX5_addToRow_12 ?_
    refine v_alen (pc := 15) C (6, 0) (v := 13) ck_6 rfl (by decide) dX5_addToRow_15 ?_
    refine v_icmp_ge (pc := 16) (tgt := 39) C dX5_addToRow_16 (by decide) (fun c_2 => ?_) (fun c_2 => ?_)
    · skip
      exact v_vret (pc := 39) C (by decide) (by decide) dX5_addToRow_39 ⟨rfl, rfl, (congrArg (fun q => w q r) (by show _ = _; rw [S_X5_addToRow, if_neg c_1, if_pos c_2]))⟩
    · skip
      refine v_aload_n (pc := 19) C dX5_addToRow_19 0 rfl rfl ?_
      refine v_get (pc := 20) C (4, 0) (v := .ref (A (6, 0))) ck_4 rfl 1 (by decide) inX5 wd_111 rfl rfl dX5_addToRow_20 ?_
      refine v_aload_n (pc := 23) C dX5_addToRow_23 0 rfl rfl ?_
      refine v_get (pc := 24) C (4, 0) (v := .int ((g 15 0 0))) ck_4 rfl 3 (by decide) inX5 wd_113 rfl rfl dX5_addToRow_24 ?_
      refine v_iload_n (pc := 27) C dX5_addToRow_27 1 rfl rfl ?_
      refine v_iast (pc := 28) C (6, 0) (x := x) ck_6 (by (try simp only [Int32.le_iff_toInt_le, Int32.lt_iff_toInt_lt, ← Int32.toInt_inj, vp_in_iff] at c_1 c_2 ⊢) <;> (try simp at *) <;> omega) dX5_addToRow_28 ?_
      refine v_h (h2 := (w (s3 g 81 ((g 15 0 0)).toNatClampNeg 0 (x)) r)) (u_6_a) ?_
      refine v_aload_n (pc := 29) C dX5_addToRow_29 0 rfl rfl ?_
      refine v_dup (pc := 30) C dX5_addToRow_30 rfl ?_
      refine v_get (pc := 31) C (4, 0) (v := .int ((g 15 0 0))) ck_4 rfl 3 (by decide) inX5 wd_113 rfl rfl dX5_addToRow_31 ?_
      refine v_iconst (v := 1) (pc := 34) C dX5_addToRow_34 rfl ?_
      refine v_iadd (pc := 35) C dX5_addToRow_35 ?_
      refine v_put (pc := 36) C (4, 0) (v := .int (((g 15 0 0) + 1))) ck_4 rfl 3 (by decide) inX5 tyX5 tyX5_ok nmX5 wd_113 rfl (.inl (Value.int (((g 15 0 0) + 1)))) rfl (ty := tyX5 3) (by decide +kernel) rfl rfl (Nat.le_of_ble_eq_true rfl) dX5_addToRow_36 ?_
      refine v_h (h2 := (w (s3 (s3 g 81 ((g 15 0 0)).toNatClampNeg 0 (x)) 15 0 0 (((g 15 0 0) + 1))) r)) (u_4_3) ?_
      exact v_vret (pc := 39) C (by decide) (by decide) dX5_addToRow_39 ⟨rfl, rfl, (congrArg (fun q => w q r) (by show _ = _; rw [S_X5_addToRow, if_neg c_1, if_neg c_2]))⟩
