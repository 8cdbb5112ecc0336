def V_X12_thrown (g : vS)  : Int32 := (g 1 0 0)
set_option maxHeartbeats 4000000 in
set_option maxRecDepth 100000 in
theorem c_X12_thrown {G : vG} (hG : G.1.stackTraces = false) {A : vN → Nat} {g : vS} {r : vH}   : vCt G yX12_thrown cX12_thrown 1 (some .int) 0 [.ref (A (40, 0))] A (wm g r) (fun v A2 h2 => v = some (.int (V_X12_thrown g)) ∧ A2 = A ∧ h2 = wm g r) (vNoX) 0 0 := by
  refine v_of hG (by decide +kernel) (Nat.le_of_ble_eq_true rfl) (lv := [(0, .ref (A (40, 0)))]) rfl (fun X C hnx => ?_)
  have C : vC G X cX12_thrown 1 RX12 (some .int) "thrown" 0 0 0 := C
  refine v_aload_n (pc := 0) C dX12_thrown_0 0 rfl rfl ?_
  refine v_get (pc := 1) C (40, 0) (v := .int ((g 1 0 0))) ck_40 rfl 0 (by decide) inX12 wd_1385 rfl rfl dX12_thrown_1 ?_
  exact v_iret (pc := 4) C (by decide) (by decide) dX12_thrown_4 ⟨(congrArg (fun q => some (Value.int q)) (by show _ = _; rw [V_X12_thrown])), rfl, rfl⟩
def V_X12_isWrong (g : vS) (x : Int32) : Int32 := (if x ≤ 0 then 0 else 1)
theorem B_X12_isWrong {g : vS} {x : Int32} : V_X12_isWrong g x = 0 ∨ V_X12_isWrong g x = 1 := by
  unfold V_X12_isWrong
  (repeat' split) <;> first | exact Or.inl rfl | exact Or.inr rfl
def S_X12_isWrong (g : vS) (x : Int32) : vS := (s3 g 1 0 0 (x))
theorem F_X12_isWrong {g : vS} {x : Int32} {c i j : Nat} (h1 : c ≠ 1) : S_X12_isWrong g x c i j = g c i j := by
  unfold S_X12_isWrong
  (repeat' split) <;> first | rfl | ((simp only [s3_k h1]) <;> first | done | rfl)
set_option maxHeartbeats 4000000 in
set_option maxRecDepth 100000 in
theorem c_X12_isWrong {G : vG} (hG : G.1.stackTraces = false) {A : vN → Nat} {g : vS} {r : vH} (x : Int32)  : vCt G yX12_isWrong cX12_isWrong 2 (some .boolean) 0 [.ref (A (40, 0)), .int (x)] A (wm g r) (fun v A2 h2 => v = some (.int (V_X12_isWrong g x)) ∧ A2 = A ∧ h2 = wm (S_X12_isWrong g x) r) (vNoX) 0 0 := by
  refine v_of hG (by decide +kernel) (Nat.le_of_ble_eq_true rfl) (lv := [(0, .ref (A (40, 0))), (1, .int (x))]) rfl (fun X C hnx => ?_)
  have C : vC G X cX12_isWrong 2 RX12 (some .boolean) "isWrong" 0 0 0 := C
  refine v_aload_n (pc := 0) C dX12_isWrong_0 0 rfl rfl ?_
  refine v_iload_n (pc := 1) C dX12_isWrong_1 1 rfl rfl ?_
  refine v_put (pc := 2) C (40, 0) (v := .int (x)) ck_40 rfl 0 (by decide) inX12 tyX12 tyX12_ok nmX12 wd_1385 rfl (.inl (Value.int (x))) rfl (ty := tyX12 0) (by decide +kernel) rfl rfl (Nat.le_of_ble_eq_true rfl) dX12_isWrong_2 ?_
  refine v_h (h2 := (wm (s3 g 1 0 0 (x)) r)) (u_40_0) ?_
  refine v_iload_n (pc := 5) C dX12_isWrong_5 1 rfl rfl ?_
  refine v_if_le (pc := 6) (tgt := 13) C dX12_isWrong_6 (by decide) (fun c_1 => ?_) (fun c_1 => ?_)
  · skip
    refine v_iconst (v := 0) (pc := 13) C dX12_isWrong_13 rfl ?_
    exact v_zret (pc := 14) C rfl (by decide) (by decide) dX12_isWrong_14 ⟨(congrArg (fun q => some (Value.int q)) (by show _ = _; rw [V_X12_isWrong, if_pos c_1])), rfl, (congrArg (fun q => wm q r) (by show _ = _; rw [S_X12_isWrong]))⟩
  · skip
    refine v_iconst (v := 1) (pc := 9) C dX12_isWrong_9 rfl ?_
    refine v_goto (tgt := 14) (pc := 10) C dX12_isWrong_10 (by decide) ?_
    exact v_zret (pc := 14) C rfl (by decide) (by decide) dX12_isWrong_14 ⟨(congrArg (fun q => some (Value.int q)) (by show _ = _; rw [V_X12_isWrong, if_neg c_1])), rfl, (congrArg (fun q => wm q r) (by show _ = _; rw [S_X12_isWrong]))⟩
def V_X12_isBetween (g : vS) (x : Int32) (a : Int32) (b : Int32) : Int32 := (if x < a then 0 else (if b < x then 0 else 1))
theorem B_X12_isBetween {g : vS} {x : Int32} {a : Int32} {b : Int32} : V_X12_isBetween g x a b = 0 ∨ V_X12_isBetween g x a b = 1 := by
  unfold V_X12_isBetween
  (repeat' split) <;> first | exact Or.inl rfl | exact Or.inr rfl
set_option maxHeartbeats 4000000 in
set_option maxRecDepth 100000 in
theorem c_X12_isBetween {G : vG} (hG : G.1.stackTraces = false) {A : vN → Nat} {g : vS} {r : vH} (x : Int32) (a : Int32) (b : Int32)  : vCt G yX12_isBetween cX12_isBetween 3 (some .boolean) 0 [.int (x), .int (a), .int (b)] A (wm g r) (fun v A2 h2 => v = some (.int (V_X12_isBetween g x a b)) ∧ A2 = A ∧ h2 = wm g r) (vNoX) 0 0 := by
  refine v_of hG (by decide +kernel) (Nat.le_of_ble_eq_true rfl) (lv := [(0, .int (x)), (1, .int (a)), (2, .int (b))]) rfl (fun X C hnx => ?_)
  have C : vC G X cX12_isBetween 3 RX12 (some .boolean) "isBetween" 0 0 0 := C
  refine v_iload_n (pc := 0) C dX12_isBetween_0 1 rfl rfl ?_
  refine v_iload_n (pc := 1) C dX12_isBetween_1 0 rfl rfl ?_
  refine v_icmp_gt (pc := 2) (tgt := 14) C dX12_isBetween_2 (by decide) (fun c_1 => ?_) (fun c_1 => ?_)
  · skip
    refine v_iconst (v := 0) (pc := 14) C dX12_isBetween_14 rfl ?_
    exact v_zret (pc := 15) C rfl (by decide) (by decide) dX12_isBetween_15 ⟨(congrArg (fun q => some (Value.int q)) (by show _ = _; rw [V_X12_isBetween, if_pos c_1])), rfl, rfl⟩
  · skip
    refine v_iload_n (pc := 5) C dX12_isBetween_5 0 rfl rfl ?_
    refine v_iload_n (pc := 6) C dX12_isBetween_6 2 rfl rfl ?_
    refine v_icmp_gt (pc := 7) (tgt := 14) C dX12_isBetween_7 (by decide) (fun c_2 => ?_) (fun c_2 => ?_)
    · skip
      refine v_iconst (v := 0) (pc := 14) C dX12_isBetween_14 rfl ?_
      exact v_zret (pc := 15) C rfl (by decide) (by decide) dX12_isBetween_15 ⟨(congrArg (fun q => some (Value.int q)) (by show _ = _; rw [V_X12_isBetween, if_neg c_1, if_pos c_2])), rfl, rfl⟩
    · skip
      refine v_iconst (v := 1) (pc := 10) C dX12_isBetween_10 rfl ?_
      refine v_goto (tgt := 15) (pc := 11) C dX12_isBetween_11 (by decide) ?_
      exact v_zret (pc := 15) C rfl (by decide) (by decide) dX12_isBetween_15 ⟨(congrArg (fun q => some (Value.int q)) (by show _ = _; rw [V_X12_isBetween, if_neg c_1, if_neg c_2])), rfl, rfl⟩
def V_X12_isUser (g : vS) (x : Int32) : Int32 := (V_X12_isBetween g (x) (0) (((g 2 0 0) - 1)))
theorem B_X12_isUser {g : vS} {x : Int32} : V_X12_isUser g x = 0 ∨ V_X12_isUser g x = 1 := by
  unfold V_X12_isUser
  (repeat' split) <;> first | exact Or.inl rfl | exact Or.inr rfl | exact B_X12_isBetween
set_option maxHeartbeats 4000000 in
set_option maxRecDepth 100000 in
theorem c_X12_isUser {G : vG} (hG : G.1.stackTraces = false) {A : vN → Nat} {g : vS} {r : vH} (x : Int32)  : vCt G yX12_isUser cX12_isUser 2 (some .boolean) 1 [.ref (A (40, 0)), .int (x)] A (wm g r) (fun v A2 h2 => v = some (.int (V_X12_isUser g x)) ∧ A2 = A ∧ h2 = wm g r) (vNoX) 0 0 := by
  refine v_of hG (by decide +kernel) (Nat.le_of_ble_eq_true rfl) (lv := [(0, .ref (A (40, 0))), (1, .int (x))]) rfl (fun X C hnx => ?_)
  have C : vC G X cX12_isUser 2 RX12 (some .boolean) "isUser" 1 0 0 := C
  refine v_iload_n (pc := 0) C dX12_isUser_0 1 rfl rfl ?_
  refine v_iconst (v := 0) (pc := 1) C dX12_isUser_1 rfl ?_
  refine v_aload_n (pc := 2) C dX12_isUser_2 0 rfl rfl ?_
  refine v_get (pc := 3) C (40, 0) (v := .int ((g 2 0 0))) ck_40 rfl 13 (by decide) inX12 wd_1398 rfl rfl dX12_isUser_3 ?_
  refine v_iconst (v := 1) (pc := 6) C dX12_isUser_6 rfl ?_
  refine v_isub (pc := 7) C dX12_isUser_7 ?_
  refine v_callS (pc := 8) C (c_X12_isBetween hG (x) (0) (((g 2 0 0) - 1)) ) 3 wd_1524 wd_68 wd_1522 wd_1523 (by decide +kernel) (by decide) (by decide) rfl ([]) rfl (Nat.le_of_ble_eq_true rfl) (by decide) dX12_isUser_8 (fun _ _ _ q => q.elim) (fun v9 A9 h9 hR9 => ?_)
  obtain ⟨rfl, hA9, rfl⟩ := hR9
  obtain rfl := hA9.symm
  refine v_st (k2 := 0) (n2 := 0) (st2 := [.int ((V_X12_isBetween g (x) (0) (((g 2 0 0) - 1))))]) rfl rfl rfl ?_
  exact v_zret (pc := 11) C (nar_b B_X12_isBetween) (by decide) (by decide) dX12_isUser_11 ⟨(congrArg (fun q => some (Value.int q)) (by show _ = _; rw [V_X12_isUser])), rfl, rfl⟩
def V_X12_isGroup (g : vS) (x : Int32) : Int32 := (V_X12_isBetween g (x) (0) (((g 3 0 0) - 1)))
theorem B_X12_isGroup {g : vS} {x : Int32} : V_X12_isGroup g x = 0 ∨ V_X12_isGroup g x = 1 := by
  unfold V_X12_isGroup
  (repeat' split) <;> first | exact Or.inl rfl | exact Or.inr rfl | exact B_X12_isBetween
set_option maxHeartbeats 4000000 in
set_option maxRecDepth 100000 in
theorem c_X12_isGroup {G : vG} (hG : G.1.stackTraces = false) {A : vN → Nat} {g : vS} {r : vH} (x : Int32)  : vCt G yX12_isGroup cX12_isGroup 2 (some .boolean) 1 [.ref (A (40, 0)), .int (x)] A (wm g r) (fun v A2 h2 => v = some (.int (V_X12_isGroup g x)) ∧ A2 = A ∧ h2 = wm g r) (vNoX) 0 0 := by
  refine v_of hG (by decide +kernel) (Nat.le_of_ble_eq_true rfl) (lv := [(0, .ref (A (40, 0))), (1, .int (x))]) rfl (fun X C hnx => ?_)
  have C : vC G X cX12_isGroup 2 RX12 (some .boolean) "isGroup" 1 0 0 := C
  refine v_iload_n (pc := 0) C dX12_isGroup_0 1 rfl rfl ?_
  refine v_iconst (v := 0) (pc := 1) C dX12_isGroup_1 rfl ?_
  refine v_aload_n (pc := 2) C dX12_isGroup_2 0 rfl rfl ?_
  refine v_get (pc := 3) C (40, 0) (v := .int ((g 3 0 0))) ck_40 rfl 14 (by decide) inX12 wd_1399 rfl rfl dX12_isGroup_3 ?_
  refine v_iconst (v := 1) (pc := 6) C dX12_isGroup_6 rfl ?_
  refine v_isub (pc := 7) C dX12_isGroup_7 ?_
  refine v_callS (pc := 8) C (c_X12_isBetween hG (x) (0) (((g 3 0 0) - 1)) ) 3 wd_1524 wd_68 wd_1522 wd_1523 (by decide +kernel) (by decide) (by decide) rfl ([]) rfl (Nat.le_of_ble_eq_true rfl) (by decide) dX12_isGroup_8 (fun _ _ _ q => q.elim) (fun v9 A9 h9 hR9 => ?_)
  obtain ⟨rfl, hA9, rfl⟩ := hR9
  obtain rfl := hA9.symm
  refine v_st (k2 := 0) (n2 := 0) (st2 := [.int ((V_X12_isBetween g (x) (0) (((g 3 0 0) - 1))))]) rfl rfl rfl ?_
  exact v_zret (pc := 11) C (nar_b B_X12_isBetween) (by decide) (by decide) dX12_isGroup_11 ⟨(congrArg (fun q => some (Value.int q)) (by show _ = _; rw [V_X12_isGroup])), rfl, rfl⟩
def V_X12_isFile (g : vS) (x : Int32) : Int32 := (V_X12_isBetween g (x) (0) (((g 4 0 0) - 1)))
theorem B_X12_isFile {g : vS} {x : Int32} : V_X12_isFile g x = 0 ∨ V_X12_isFile g x = 1 := by
  unfold V_X12_isFile
  (repeat' split) <;> first | exact Or.inl rfl | exact Or.inr rfl | exact B_X12_isBetween
set_option maxHeartbeats 4000000 in
set_option maxRecDepth 100000 in
theorem c_X12_isFile {G : vG} (hG : G.1.stackTraces = false) {A : vN → Nat} {g : vS} {r : vH} (x : Int32)  : vCt G yX12_isFile cX12_isFile 2 (some .boolean) 1 [.ref (A (40, 0)), .int (x)] A (wm g r) (fun v A2 h2 => v = some (.int (V_X12_isFile g x)) ∧ A2 = A ∧ h2 = wm g r) (vNoX) 0 0 := by
  refine v_of hG (by decide +kernel) (Nat.le_of_ble_eq_true rfl) (lv := [(0, .ref (A (40, 0))), (1, .int (x))]) rfl (fun X C hnx => ?_)
  have C : vC G X cX12_isFile 2 RX12 (some .boolean) "isFile" 1 0 0 := C
  refine v_iload_n (pc := 0) C dX12_isFile_0 1 rfl rfl ?_
  refine v_iconst (v := 0) (pc := 1) C dX12_isFile_1 rfl ?_
  refine v_aload_n (pc := 2) C dX12_isFile_2 0 rfl rfl ?_
  refine v_get (pc := 3) C (40, 0) (v := .int ((g 4 0 0))) ck_40 rfl 24 (by decide) inX12 wd_1409 rfl rfl dX12_isFile_3 ?_
  refine v_iconst (v := 1) (pc := 6) C dX12_isFile_6 rfl ?_
  refine v_isub (pc := 7) C dX12_isFile_7 ?_
  refine v_callS (pc := 8) C (c_X12_isBetween hG (x) (0) (((g 4 0 0) - 1)) ) 3 wd_1524 wd_68 wd_1522 wd_1523 (by decide +kernel) (by decide) (by decide) rfl ([]) rfl (Nat.le_of_ble_eq_true rfl) (by decide) dX12_isFile_8 (fun _ _ _ q => q.elim) (fun v9 A9 h9 hR9 => ?_)
  obtain ⟨rfl, hA9, rfl⟩ := hR9
  obtain rfl := hA9.symm
  refine v_st (k2 := 0) (n2 := 0) (st2 := [.int ((V_X12_isBetween g (x) (0) (((g 4 0 0) - 1))))]) rfl rfl rfl ?_
  exact v_zret (pc := 11) C (nar_b B_X12_isBetween) (by decide) (by decide) dX12_isFile_11 ⟨(congrArg (fun q => some (Value.int q)) (by show _ = _; rw [V_X12_isFile])), rfl, rfl⟩
def V_X12_isPart (g : vS) (x : Int32) : Int32 := (V_X12_isBetween g (x) (0) (7))
theorem B_X12_isPart {g : vS} {x : Int32} : V_X12_isPart g x = 0 ∨ V_X12_isPart g x = 1 := by
  unfold V_X12_isPart
  (repeat' split) <;> first | exact Or.inl rfl | exact Or.inr rfl | exact B_X12_isBetween
set_option maxHeartbeats 4000000 in
set_option maxRecDepth 100000 in
theorem c_X12_isPart {G : vG} (hG : G.1.stackTraces = false) {A : vN → Nat} {g : vS} {r : vH} (x : Int32)  : vCt G yX12_isPart cX12_isPart 1 (some .boolean) 1 [.int (x)] A (wm g r) (fun v A2 h2 => v = some (.int (V_X12_isPart g x)) ∧ A2 = A ∧ h2 = wm g r) (vNoX) 0 0 := by
  refine v_of hG (by decide +kernel) (Nat.le_of_ble_eq_true rfl) (lv := [(0, .int (x))]) rfl (fun X C hnx => ?_)
  have C : vC G X cX12_isPart 1 RX12 (some .boolean) "isPart" 1 0 0 := C
  refine v_iload_n (pc := 0) C dX12_isPart_0 0 rfl rfl ?_
  refine v_iconst (v := 0) (pc := 1) C dX12_isPart_1 rfl ?_
  refine v_bipush (v := 7) (pc := 2) C dX12_isPart_2 (by decide) ?_
  refine v_callS (pc := 4) C (c_X12_isBetween hG (x) (0) (7) ) 3 wd_1524 wd_68 wd_1522 wd_1523 (by decide +kernel) (by decide) (by decide) rfl ([]) rfl (Nat.le_of_ble_eq_true rfl) (by decide) dX12_isPart_4 (fun _ _ _ q => q.elim) (fun v9 A9 h9 hR9 => ?_)
  obtain ⟨rfl, hA9, rfl⟩ := hR9
  obtain rfl := hA9.symm
  refine v_st (k2 := 0) (n2 := 0) (st2 := [.int ((V_X12_isBetween g (x) (0) (7)))]) rfl rfl rfl ?_
  exact v_zret (pc := 7) C (nar_b B_X12_isBetween) (by decide) (by decide) dX12_isPart_7 ⟨(congrArg (fun q => some (Value.int q)) (by show _ = _; rw [V_X12_isPart])), rfl, rfl⟩
def V_X12_isFull (g : vS)  : Int32 := (if (g 11 0 0) = 300 then 1 else 0)
theorem B_X12_isFull {g : vS}  : V_X12_isFull g = 0 ∨ V_X12_isFull g = 1 := by
  unfold V_X12_isFull
  (repeat' split) <;> first | exact Or.inl rfl | exact Or.inr rfl
set_option maxHeartbeats 4000000 in
set_option maxRecDepth 100000 in
theorem c_X12_isFull {G : vG} (hG : G.1.stackTraces = false) {A : vN → Nat} {g : vS} {r : vH}   : vCt G yX12_isFull cX12_isFull 1 (some .boolean) 0 [.ref (A (40, 0))] A (wm g r) (fun v A2 h2 => v = some (.int (V_X12_isFull g)) ∧ A2 = A ∧ h2 = wm g r) (vNoX) 0 0 := by
  refine v_of hG (by decide +kernel) (Nat.le_of_ble_eq_true rfl) (lv := [(0, .ref (A (40, 0)))]) rfl (fun X C hnx => ?_)
  have C : vC G X cX12_isFull 1 RX12 (some .boolean) "isFull" 0 0 0 := C
  refine v_aload_n (pc := 0) C dX12_isFull_0 0 rfl rfl ?_
  refine v_get (pc := 1) C (40, 0) (v := .int ((g 11 0 0))) ck_40 rfl 36 (by decide) inX12 wd_1421 rfl rfl dX12_isFull_1 ?_
  refine v_sipush (v := 300) (pc := 4) C dX12_isFull_4 (by decide) ?_
  refine v_icmp_ne (pc := 7) (tgt := 14) C dX12_isFull_7 (by decide) (fun c_1 => ?_) (fun c_1 => ?_)
  · skip
    refine v_iconst (v := 0) (pc := 14) C dX12_isFull_14 rfl ?_
    exact v_zret (pc := 15) C rfl (by decide) (by decide) dX12_isFull_15 ⟨(congrArg (fun q => some (Value.int q)) (by show _ = _; rw [V_X12_isFull, if_neg c_1])), rfl, rfl⟩
  · skip
    refine v_iconst (v := 1) (pc := 10) C dX12_isFull_10 rfl ?_
    refine v_goto (tgt := 15) (pc := 11) C dX12_isFull_11 (by decide) ?_
    exact v_zret (pc := 15) C rfl (by decide) (by decide) dX12_isFull_15 ⟨(congrArg (fun q => some (Value.int q)) (by show _ = _; rw [V_X12_isFull, if_pos c_1])), rfl, rfl⟩

theorem ok_btw {g : vS} {x a b : Int32} : (V_X12_isBetween g x a b).toInt = 0 ∨ (a.toInt ≤ x.toInt ∧ x.toInt ≤ b.toInt) := by
  unfold V_X12_isBetween
  (repeat' split) <;> first | exact Or.inl (by decide) | (right; simp only [Int32.lt_iff_toInt_lt] at *; omega)
theorem i32_sub1 {x : Int32} (h : 0 ≤ x.toInt) : (x - 1).toInt = x.toInt - 1 := by
  have h1 := Int32.toInt_lt x
  rw [Int32.toInt_sub, show (1 : Int32).toInt = 1 from by decide]
  apply Int.bmod_eq_of_le <;> omega
theorem ok_isUser {g : vS} {x : Int32} (h : 0 ≤ (g 2 0 0).toInt) : (V_X12_isUser g x).toInt = 0 ∨ (0 ≤ x.toInt ∧ x.toInt < (g 2 0 0).toInt) := by
  have := ok_btw (g := g) (x := x) (a := 0) (b := g 2 0 0 - 1)
  rw [i32_sub1 h] at this
  simp only [Int32.reduceToInt] at this
  unfold V_X12_isUser
  omega
theorem ok_isGroup {g : vS} {x : Int32} (h : 0 ≤ (g 3 0 0).toInt) : (V_X12_isGroup g x).toInt = 0 ∨ (0 ≤ x.toInt ∧ x.toInt < (g 3 0 0).toInt) := by
  have := ok_btw (g := g) (x := x) (a := 0) (b := g 3 0 0 - 1)
  rw [i32_sub1 h] at this
  simp only [Int32.reduceToInt] at this
  unfold V_X12_isGroup
  omega
theorem ok_isFile {g : vS} {x : Int32} (h : 0 ≤ (g 4 0 0).toInt) : (V_X12_isFile g x).toInt = 0 ∨ (0 ≤ x.toInt ∧ x.toInt < (g 4 0 0).toInt) := by
  have := ok_btw (g := g) (x := x) (a := 0) (b := g 4 0 0 - 1)
  rw [i32_sub1 h] at this
  simp only [Int32.reduceToInt] at this
  unfold V_X12_isFile
  omega
theorem ok_isPart {g : vS} {x : Int32} : (V_X12_isPart g x).toInt = 0 ∨ (0 ≤ x.toInt ∧ x.toInt < 8) := by
  have := ok_btw (g := g) (x := x) (a := 0) (b := 7)
  simp only [Int32.reduceToInt] at this
  unfold V_X12_isPart
  omega

def V_X12_epoch (g : vS) (x : Int32) : Int32 := (if (V_X12_isGroup g (x)) = 0 then 0 else (g 50 (x).toNatClampNeg 0))
def S_X12_epoch (g : vS) (x : Int32) : vS := (if (V_X12_isGroup g (x)) = 0 then (S_X12_isWrong g (1)) else (S_X12_isWrong g (0)))
theorem F_X12_epoch {g : vS} {x : Int32} {c i j : Nat} (h1 : c ≠ 1) : S_X12_epoch g x c i j = g c i j := by
  unfold S_X12_epoch
  (repeat' split) <;> first | rfl | ((simp only [s3_k h1, F_X12_isWrong h1]) <;> first | done | rfl)
set_option maxHeartbeats 4000000 in
set_option maxRecDepth 100000 in
theorem c_X12_epoch {G : vG} (hG : G.1.stackTraces = false) {A : vN → Nat} {g : vS} {r : vH} (x : Int32) (hu0 : 0 ≤ (g 2 0 0).toInt) (hu : (g 2 0 0).toInt ≤ 6) (hg0 : 0 ≤ (g 3 0 0).toInt) (hg : (g 3 0 0).toInt ≤ 5) (hf0 : 0 ≤ (g 4 0 0).toInt) (hf : (g 4 0 0).toInt ≤ 20) : vCt G yX12_epoch cX12_epoch 2 (some .int) 2 [.ref (A (40, 0)), .int (x)] A (wm g r) (fun v A2 h2 => v = some (.int (V_X12_epoch g x)) ∧ A2 = A ∧ h2 = wm (S_X12_epoch g x) r) (vNoX) 0 0 := by
  refine v_of hG (by decide +kernel) (Nat.le_of_ble_eq_true rfl) (lv := [(0, .ref (A (40, 0))), (1, .int (x))]) rfl (fun X C hnx => ?_)
  have C : vC G X cX12_epoch 2 RX12 (some .int) "epoch" 2 0 0 := C
  refine v_aload_n (pc := 0) C dX12_epoch_0 0 rfl rfl ?_
  refine v_aload_n (pc := 1) C dX12_epoch_1 0 rfl rfl ?_
  refine v_iload_n (pc := 2) C dX12_epoch_2 1 rfl rfl ?_
  refine v_callV (pc := 3) C (40, 0) ck_40 rfl (c_X12_isGroup hG (x) ) 1 wd_1544 wd_68 wd_1541 wd_1543 wd_37 (by decide +kernel) (by decide) (by decide) rfl ([.ref (A (40, 0))]) rfl (Nat.le_of_ble_eq_true rfl) (by decide) dX12_epoch_3 (fun _ _ _ q => q.elim) (fun v9 A9 h9 hR9 => ?_)
  obtain ⟨rfl, hA9, rfl⟩ := hR9
  obtain rfl := hA9.symm
  refine v_st (k2 := 0) (n2 := 0) (st2 := [.int ((V_X12_isGroup g (x))), .ref (A (40, 0))]) rfl rfl rfl ?_
  have b_1 := ok_isGroup (g := g) (x := x) hg0
  refine v_if_eq (pc := 6) (tgt := 13) C dX12_epoch_6 (by decide) (fun c_2 => ?_) (fun c_2 => ?_)
  · skip
    refine v_iconst (v := 1) (pc := 13) C dX12_epoch_13 rfl ?_
    refine v_callV (pc := 14) C (40, 0) ck_40 rfl (c_X12_isWrong hG (1) ) 1 wd_1528 wd_68 wd_1525 wd_1527 wd_35 (by decide +kernel) (by decide) (by decide) rfl ([]) rfl (Nat.le_of_ble_eq_true rfl) (by decide) dX12_epoch_14 (fun _ _ _ q => q.elim) (fun v9 A9 h9 hR9 => ?_)
    obtain ⟨rfl, hA9, rfl⟩ := hR9
    obtain rfl := hA9.symm
    refine v_st (k2 := 0) (n2 := 0) (st2 := [.int ((V_X12_isWrong g (1)))]) rfl rfl rfl ?_
    refine v_if_eq (pc := 17) (tgt := 24) C dX12_epoch_17 (by decide) (fun c_3 => ?_) (fun c_3 => ?_)
    · skip
      exact absurd c_3 (fun q9 => ((show ¬ (1 : Int32) = 0 from by decide)) q9)
    · skip
      refine v_iconst (v := 0) (pc := 20) C dX12_epoch_20 rfl ?_
      refine v_goto (tgt := 30) (pc := 21) C dX12_epoch_21 (by decide) ?_
      exact v_iret (pc := 30) C (by decide) (by decide) dX12_epoch_30 ⟨(congrArg (fun q => some (Value.int q)) (by show _ = _; rw [V_X12_epoch, if_pos c_2])), rfl, (congrArg (fun q => wm q r) (by show _ = _; rw [S_X12_epoch, if_pos c_2]))⟩
  · skip
    refine v_iconst (v := 0) (pc := 9) C dX12_epoch_9 rfl ?_
    refine v_goto (tgt := 14) (pc := 10) C dX12_epoch_10 (by decide) ?_
    refine v_callV (pc := 14) C (40, 0) ck_40 rfl (c_X12_isWrong hG (0) ) 1 wd_1528 wd_68 wd_1525 wd_1527 wd_35 (by decide +kernel) (by decide) (by decide) rfl ([]) rfl (Nat.le_of_ble_eq_true rfl) (by decide) dX12_epoch_14 (fun _ _ _ q => q.elim) (fun v9 A9 h9 hR9 => ?_)
    obtain ⟨rfl, hA9, rfl⟩ := hR9
    obtain rfl := hA9.symm
    refine v_st (k2 := 0) (n2 := 0) (st2 := [.int ((V_X12_isWrong g (0)))]) rfl rfl rfl ?_
    refine v_if_eq (pc := 17) (tgt := 24) C dX12_epoch_17 (by decide) (fun c_4 => ?_) (fun c_4 => ?_)
    · skip
      refine v_aload_n (pc := 24) C dX12_epoch_24 0 rfl rfl ?_
      refine v_get (pc := 25) C (40, 0) (v := .ref (A (50, 0))) ck_40 rfl 10 (by decide) inX12 wd_1395 rfl rfl dX12_epoch_25 ?_
      refine v_iload_n (pc := 28) C dX12_epoch_28 1 rfl rfl ?_
      refine v_iald (pc := 29) C (50, 0) (v := (g 50 (x).toNatClampNeg 0)) ck_50 (by (try simp only [Int32.le_iff_toInt_le, Int32.lt_iff_toInt_lt, ← Int32.toInt_inj, vp_in_iff, Int32.reduceToInt] at c_2 c_4 b_1 hu hg hf ⊢) <;> omega) (F_X12_isWrong (by decide)) dX12_epoch_29 ?_
      exact v_iret (pc := 30) C (by decide) (by decide) dX12_epoch_30 ⟨(congrArg (fun q => some (Value.int q)) (by show _ = _; rw [V_X12_epoch, if_neg c_2])), rfl, (congrArg (fun q => wm q r) (by show _ = _; rw [S_X12_epoch, if_neg c_2]))⟩
    · skip
      exact absurd c_4 (fun q9 => q9 ((show (0 : Int32) = 0 from rfl)))
def V_X12_mark (g : vS) (x : Int32) : Int32 := (if (V_X12_isFile g (x)) = 0 then 0 else (g 57 (x).toNatClampNeg 0))
def S_X12_mark (g : vS) (x : Int32) : vS := (if (V_X12_isFile g (x)) = 0 then (S_X12_isWrong g (1)) else (S_X12_isWrong g (0)))
theorem F_X12_mark {g : vS} {x : Int32} {c i j : Nat} (h1 : c ≠ 1) : S_X12_mark g x c i j = g c i j := by
  unfold S_X12_mark
  (repeat' split) <;> first | rfl | ((simp only [s3_k h1, F_X12_isWrong h1]) <;> first | done | rfl)
set_option maxHeartbeats 4000000 in
set_option maxRecDepth 100000 in
theorem c_X12_mark {G : vG} (hG : G.1.stackTraces = false) {A : vN → Nat} {g : vS} {r : vH} (x : Int32) (hu0 : 0 ≤ (g 2 0 0).toInt) (hu : (g 2 0 0).toInt ≤ 6) (hg0 : 0 ≤ (g 3 0 0).toInt) (hg : (g 3 0 0).toInt ≤ 5) (hf0 : 0 ≤ (g 4 0 0).toInt) (hf : (g 4 0 0).toInt ≤ 20) : vCt G yX12_mark cX12_mark 2 (some .int) 2 [.ref (A (40, 0)), .int (x)] A (wm g r) (fun v A2 h2 => v = some (.int (V_X12_mark g x)) ∧ A2 = A ∧ h2 = wm (S_X12_mark g x) r) (vNoX) 0 0 := by
  refine v_of hG (by decide +kernel) (Nat.le_of_ble_eq_true rfl) (lv := [(0, .ref (A (40, 0))), (1, .int (x))]) rfl (fun X C hnx => ?_)
  have C : vC G X cX12_mark 2 RX12 (some .int) "mark" 2 0 0 := C
  refine v_aload_n (pc := 0) C dX12_mark_0 0 rfl rfl ?_
  refine v_aload_n (pc := 1) C dX12_mark_1 0 rfl rfl ?_
  refine v_iload_n (pc := 2) C dX12_mark_2 1 rfl rfl ?_
  refine v_callV (pc := 3) C (40, 0) ck_40 rfl (c_X12_isFile hG (x) ) 1 wd_1610 wd_68 wd_1607 wd_1609 wd_45 (by decide +kernel) (by decide) (by decide) rfl ([.ref (A (40, 0))]) rfl (Nat.le_of_ble_eq_true rfl) (by decide) dX12_mark_3 (fun _ _ _ q => q.elim) (fun v9 A9 h9 hR9 => ?_)
  obtain ⟨rfl, hA9, rfl⟩ := hR9
  obtain rfl := hA9.symm
  refine v_st (k2 := 0) (n2 := 0) (st2 := [.int ((V_X12_isFile g (x))), .ref (A (40, 0))]) rfl rfl rfl ?_
  have b_1 := ok_isFile (g := g) (x := x) hf0
  refine v_if_eq (pc := 6) (tgt := 13) C dX12_mark_6 (by decide) (fun c_2 => ?_) (fun c_2 => ?_)
  · skip
    refine v_iconst (v := 1) (pc := 13) C dX12_mark_13 rfl ?_
    refine v_callV (pc := 14) C (40, 0) ck_40 rfl (c_X12_isWrong hG (1) ) 1 wd_1528 wd_68 wd_1525 wd_1527 wd_35 (by decide +kernel) (by decide) (by decide) rfl ([]) rfl (Nat.le_of_ble_eq_true rfl) (by decide) dX12_mark_14 (fun _ _ _ q => q.elim) (fun v9 A9 h9 hR9 => ?_)
    obtain ⟨rfl, hA9, rfl⟩ := hR9
    obtain rfl := hA9.symm
    refine v_st (k2 := 0) (n2 := 0) (st2 := [.int ((V_X12_isWrong g (1)))]) rfl rfl rfl ?_
    refine v_if_eq (pc := 17) (tgt := 24) C dX12_mark_17 (by decide) (fun c_3 => ?_) (fun c_3 => ?_)
    · skip
      exact absurd c_3 (fun q9 => ((show ¬ (1 : Int32) = 0 from by decide)) q9)
    · skip
      refine v_iconst (v := 0) (pc := 20) C dX12_mark_20 rfl ?_
      refine v_goto (tgt := 30) (pc := 21) C dX12_mark_21 (by decide) ?_
      exact v_iret (pc := 30) C (by decide) (by decide) dX12_mark_30 ⟨(congrArg (fun q => some (Value.int q)) (by show _ = _; rw [V_X12_mark, if_pos c_2])), rfl, (congrArg (fun q => wm q r) (by show _ = _; rw [S_X12_mark, if_pos c_2]))⟩
  · skip
    refine v_iconst (v := 0) (pc := 9) C dX12_mark_9 rfl ?_
    refine v_goto (tgt := 14) (pc := 10) C dX12_mark_10 (by decide) ?_
    refine v_callV (pc := 14) C (40, 0) ck_40 rfl (c_X12_isWrong hG (0) ) 1 wd_1528 wd_68 wd_1525 wd_1527 wd_35 (by decide +kernel) (by decide) (by decide) rfl ([]) rfl (Nat.le_of_ble_eq_true rfl) (by decide) dX12_mark_14 (fun _ _ _ q => q.elim) (fun v9 A9 h9 hR9 => ?_)
    obtain ⟨rfl, hA9, rfl⟩ := hR9
    obtain rfl := hA9.symm
    refine v_st (k2 := 0) (n2 := 0) (st2 := [.int ((V_X12_isWrong g (0)))]) rfl rfl rfl ?_
    refine v_if_eq (pc := 17) (tgt := 24) C dX12_mark_17 (by decide) (fun c_4 => ?_) (fun c_4 => ?_)
    · skip
      refine v_aload_n (pc := 24) C dX12_mark_24 0 rfl rfl ?_
      refine v_get (pc := 25) C (40, 0) (v := .ref (A (57, 0))) ck_40 rfl 17 (by decide) inX12 wd_1402 rfl rfl dX12_mark_25 ?_
      refine v_iload_n (pc := 28) C dX12_mark_28 1 rfl rfl ?_
      refine v_iald (pc := 29) C (57, 0) (v := (g 57 (x).toNatClampNeg 0)) ck_57 (by (try simp only [Int32.le_iff_toInt_le, Int32.lt_iff_toInt_lt, ← Int32.toInt_inj, vp_in_iff, Int32.reduceToInt] at c_2 c_4 b_1 hu hg hf ⊢) <;> omega) (F_X12_isWrong (by decide)) dX12_mark_29 ?_
      exact v_iret (pc := 30) C (by decide) (by decide) dX12_mark_30 ⟨(congrArg (fun q => some (Value.int q)) (by show _ = _; rw [V_X12_mark, if_neg c_2])), rfl, (congrArg (fun q => wm q r) (by show _ = _; rw [S_X12_mark, if_neg c_2]))⟩
    · skip
      exact absurd c_4 (fun q9 => q9 ((show (0 : Int32) = 0 from rfl)))
def V_X12_head (g : vS) (x : Int32) : Int32 := (if (V_X12_isUser g (x)) = 0 then 0 else (g 42 (x).toNatClampNeg 0))
def S_X12_head (g : vS) (x : Int32) : vS := (if (V_X12_isUser g (x)) = 0 then (S_X12_isWrong g (1)) else (S_X12_isWrong g (0)))
theorem F_X12_head {g : vS} {x : Int32} {c i j : Nat} (h1 : c ≠ 1) : S_X12_head g x c i j = g c i j := by
  unfold S_X12_head
  (repeat' split) <;> first | rfl | ((simp only [s3_k h1, F_X12_isWrong h1]) <;> first | done | rfl)
set_option maxHeartbeats 4000000 in
set_option maxRecDepth 100000 in
theorem c_X12_head {G : vG} (hG : G.1.stackTraces = false) {A : vN → Nat} {g : vS} {r : vH} (x : Int32) (hu0 : 0 ≤ (g 2 0 0).toInt) (hu : (g 2 0 0).toInt ≤ 6) (hg0 : 0 ≤ (g 3 0 0).toInt) (hg : (g 3 0 0).toInt ≤ 5) (hf0 : 0 ≤ (g 4 0 0).toInt) (hf : (g 4 0 0).toInt ≤ 20) : vCt G yX12_head cX12_head 2 (some .int) 2 [.ref (A (40, 0)), .int (x)] A (wm g r) (fun v A2 h2 => v = some (.int (V_X12_head g x)) ∧ A2 = A ∧ h2 = wm (S_X12_head g x) r) (vNoX) 0 0 := by
  refine v_of hG (by decide +kernel) (Nat.le_of_ble_eq_true rfl) (lv := [(0, .ref (A (40, 0))), (1, .int (x))]) rfl (fun X C hnx => ?_)
  have C : vC G X cX12_head 2 RX12 (some .int) "head" 2 0 0 := C
  refine v_aload_n (pc := 0) C dX12_head_0 0 rfl rfl ?_
  refine v_aload_n (pc := 1) C dX12_head_1 0 rfl rfl ?_
  refine v_iload_n (pc := 2) C dX12_head_2 1 rfl rfl ?_
  refine v_callV (pc := 3) C (40, 0) ck_40 rfl (c_X12_isUser hG (x) ) 1 wd_1536 wd_68 wd_1533 wd_1535 wd_36 (by decide +kernel) (by decide) (by decide) rfl ([.ref (A (40, 0))]) rfl (Nat.le_of_ble_eq_true rfl) (by decide) dX12_head_3 (fun _ _ _ q => q.elim) (fun v9 A9 h9 hR9 => ?_)
  obtain ⟨rfl, hA9, rfl⟩ := hR9
  obtain rfl := hA9.symm
  refine v_st (k2 := 0) (n2 := 0) (st2 := [.int ((V_X12_isUser g (x))), .ref (A (40, 0))]) rfl rfl rfl ?_
  have b_1 := ok_isUser (g := g) (x := x) hu0
  refine v_if_eq (pc := 6) (tgt := 13) C dX12_head_6 (by decide) (fun c_2 => ?_) (fun c_2 => ?_)
  · skip
    refine v_iconst (v := 1) (pc := 13) C dX12_head_13 rfl ?_
    refine v_callV (pc := 14) C (40, 0) ck_40 rfl (c_X12_isWrong hG (1) ) 1 wd_1528 wd_68 wd_1525 wd_1527 wd_35 (by decide +kernel) (by decide) (by decide) rfl ([]) rfl (Nat.le_of_ble_eq_true rfl) (by decide) dX12_head_14 (fun _ _ _ q => q.elim) (fun v9 A9 h9 hR9 => ?_)
    obtain ⟨rfl, hA9, rfl⟩ := hR9
    obtain rfl := hA9.symm
    refine v_st (k2 := 0) (n2 := 0) (st2 := [.int ((V_X12_isWrong g (1)))]) rfl rfl rfl ?_
    refine v_if_eq (pc := 17) (tgt := 24) C dX12_head_17 (by decide) (fun c_3 => ?_) (fun c_3 => ?_)
    · skip
      exact absurd c_3 (fun q9 => ((show ¬ (1 : Int32) = 0 from by decide)) q9)
    · skip
      refine v_iconst (v := 0) (pc := 20) C dX12_head_20 rfl ?_
      refine v_goto (tgt := 30) (pc := 21) C dX12_head_21 (by decide) ?_
      exact v_iret (pc := 30) C (by decide) (by decide) dX12_head_30 ⟨(congrArg (fun q => some (Value.int q)) (by show _ = _; rw [V_X12_head, if_pos c_2])), rfl, (congrArg (fun q => wm q r) (by show _ = _; rw [S_X12_head, if_pos c_2]))⟩
  · skip
    refine v_iconst (v := 0) (pc := 9) C dX12_head_9 rfl ?_
    refine v_goto (tgt := 14) (pc := 10) C dX12_head_10 (by decide) ?_
    refine v_callV (pc := 14) C (40, 0) ck_40 rfl (c_X12_isWrong hG (0) ) 1 wd_1528 wd_68 wd_1525 wd_1527 wd_35 (by decide +kernel) (by decide) (by decide) rfl ([]) rfl (Nat.le_of_ble_eq_true rfl) (by decide) dX12_head_14 (fun _ _ _ q => q.elim) (fun v9 A9 h9 hR9 => ?_)
    obtain ⟨rfl, hA9, rfl⟩ := hR9
    obtain rfl := hA9.symm
    refine v_st (k2 := 0) (n2 := 0) (st2 := [.int ((V_X12_isWrong g (0)))]) rfl rfl rfl ?_
    refine v_if_eq (pc := 17) (tgt := 24) C dX12_head_17 (by decide) (fun c_4 => ?_) (fun c_4 => ?_)
    · skip
      refine v_aload_n (pc := 24) C dX12_head_24 0 rfl rfl ?_
      refine v_get (pc := 25) C (40, 0) (v := .ref (A (42, 0))) ck_40 rfl 2 (by decide) inX12 wd_1387 rfl rfl dX12_head_25 ?_
      refine v_iload_n (pc := 28) C dX12_head_28 1 rfl rfl ?_
      refine v_iald (pc := 29) C (42, 0) (v := (g 42 (x).toNatClampNeg 0)) ck_42 (by (try simp only [Int32.le_iff_toInt_le, Int32.lt_iff_toInt_lt, ← Int32.toInt_inj, vp_in_iff, Int32.reduceToInt] at c_2 c_4 b_1 hu hg hf ⊢) <;> omega) (F_X12_isWrong (by decide)) dX12_head_29 ?_
      exact v_iret (pc := 30) C (by decide) (by decide) dX12_head_30 ⟨(congrArg (fun q => some (Value.int q)) (by show _ = _; rw [V_X12_head, if_neg c_2])), rfl, (congrArg (fun q => wm q r) (by show _ = _; rw [S_X12_head, if_neg c_2]))⟩
    · skip
      exact absurd c_4 (fun q9 => q9 ((show (0 : Int32) = 0 from rfl)))
def V_X12_alarms (g : vS) (x : Int32) : Int32 := (if (V_X12_isUser g (x)) = 0 then 0 else (g 44 (x).toNatClampNeg 0))
def S_X12_alarms (g : vS) (x : Int32) : vS := (if (V_X12_isUser g (x)) = 0 then (S_X12_isWrong g (1)) else (S_X12_isWrong g (0)))
theorem F_X12_alarms {g : vS} {x : Int32} {c i j : Nat} (h1 : c ≠ 1) : S_X12_alarms g x c i j = g c i j := by
  unfold S_X12_alarms
  (repeat' split) <;> first | rfl | ((simp only [s3_k h1, F_X12_isWrong h1]) <;> first | done | rfl)
set_option maxHeartbeats 4000000 in
set_option maxRecDepth 100000 in
theorem c_X12_alarms {G : vG} (hG : G.1.stackTraces = false) {A : vN → Nat} {g : vS} {r : vH} (x : Int32) (hu0 : 0 ≤ (g 2 0 0).toInt) (hu : (g 2 0 0).toInt ≤ 6) (hg0 : 0 ≤ (g 3 0 0).toInt) (hg : (g 3 0 0).toInt ≤ 5) (hf0 : 0 ≤ (g 4 0 0).toInt) (hf : (g 4 0 0).toInt ≤ 20) : vCt G yX12_alarms cX12_alarms 2 (some .int) 2 [.ref (A (40, 0)), .int (x)] A (wm g r) (fun v A2 h2 => v = some (.int (V_X12_alarms g x)) ∧ A2 = A ∧ h2 = wm (S_X12_alarms g x) r) (vNoX) 0 0 := by
  refine v_of hG (by decide +kernel) (Nat.le_of_ble_eq_true rfl) (lv := [(0, .ref (A (40, 0))), (1, .int (x))]) rfl (fun X C hnx => ?_)
  have C : vC G X cX12_alarms 2 RX12 (some .int) "alarms" 2 0 0 := C
  refine v_aload_n (pc := 0) C dX12_alarms_0 0 rfl rfl ?_
  refine v_aload_n (pc := 1) C dX12_alarms_1 0 rfl rfl ?_
  refine v_iload_n (pc := 2) C dX12_alarms_2 1 rfl rfl ?_
  refine v_callV (pc := 3) C (40, 0) ck_40 rfl (c_X12_isUser hG (x) ) 1 wd_1536 wd_68 wd_1533 wd_1535 wd_36 (by decide +kernel) (by decide) (by decide) rfl ([.ref (A (40, 0))]) rfl (Nat.le_of_ble_eq_true rfl) (by decide) dX12_alarms_3 (fun _ _ _ q => q.elim) (fun v9 A9 h9 hR9 => ?_)
  obtain ⟨rfl, hA9, rfl⟩ := hR9
  obtain rfl := hA9.symm
  refine v_st (k2 := 0) (n2 := 0) (st2 := [.int ((V_X12_isUser g (x))), .ref (A (40, 0))]) rfl rfl rfl ?_
  have b_1 := ok_isUser (g := g) (x := x) hu0
  refine v_if_eq (pc := 6) (tgt := 13) C dX12_alarms_6 (by decide) (fun c_2 => ?_) (fun c_2 => ?_)
  · skip
    refine v_iconst (v := 1) (pc := 13) C dX12_alarms_13 rfl ?_
    refine v_callV (pc := 14) C (40, 0) ck_40 rfl (c_X12_isWrong hG (1) ) 1 wd_1528 wd_68 wd_1525 wd_1527 wd_35 (by decide +kernel) (by decide) (by decide) rfl ([]) rfl (Nat.le_of_ble_eq_true rfl) (by decide) dX12_alarms_14 (fun _ _ _ q => q.elim) (fun v9 A9 h9 hR9 => ?_)
    obtain ⟨rfl, hA9, rfl⟩ := hR9
    obtain rfl := hA9.symm
    refine v_st (k2 := 0) (n2 := 0) (st2 := [.int ((V_X12_isWrong g (1)))]) rfl rfl rfl ?_
    refine v_if_eq (pc := 17) (tgt := 24) C dX12_alarms_17 (by decide) (fun c_3 => ?_) (fun c_3 => ?_)
    · skip
      exact absurd c_3 (fun q9 => ((show ¬ (1 : Int32) = 0 from by decide)) q9)
    · skip
      refine v_iconst (v := 0) (pc := 20) C dX12_alarms_20 rfl ?_
      refine v_goto (tgt := 30) (pc := 21) C dX12_alarms_21 (by decide) ?_
      exact v_iret (pc := 30) C (by decide) (by decide) dX12_alarms_30 ⟨(congrArg (fun q => some (Value.int q)) (by show _ = _; rw [V_X12_alarms, if_pos c_2])), rfl, (congrArg (fun q => wm q r) (by show _ = _; rw [S_X12_alarms, if_pos c_2]))⟩
  · skip
    refine v_iconst (v := 0) (pc := 9) C dX12_alarms_9 rfl ?_
    refine v_goto (tgt := 14) (pc := 10) C dX12_alarms_10 (by decide) ?_
    refine v_callV (pc := 14) C (40, 0) ck_40 rfl (c_X12_isWrong hG (0) ) 1 wd_1528 wd_68 wd_1525 wd_1527 wd_35 (by decide +kernel) (by decide) (by decide) rfl ([]) rfl (Nat.le_of_ble_eq_true rfl) (by decide) dX12_alarms_14 (fun _ _ _ q => q.elim) (fun v9 A9 h9 hR9 => ?_)
    obtain ⟨rfl, hA9, rfl⟩ := hR9
    obtain rfl := hA9.symm
    refine v_st (k2 := 0) (n2 := 0) (st2 := [.int ((V_X12_isWrong g (0)))]) rfl rfl rfl ?_
    refine v_if_eq (pc := 17) (tgt := 24) C dX12_alarms_17 (by decide) (fun c_4 => ?_) (fun c_4 => ?_)
    · skip
      refine v_aload_n (pc := 24) C dX12_alarms_24 0 rfl rfl ?_
      refine v_get (pc := 25) C (40, 0) (v := .ref (A (44, 0))) ck_40 rfl 4 (by decide) inX12 wd_1389 rfl rfl dX12_alarms_25 ?_
      refine v_iload_n (pc := 28) C dX12_alarms_28 1 rfl rfl ?_
      refine v_iald (pc := 29) C (44, 0) (v := (g 44 (x).toNatClampNeg 0)) ck_44 (by (try simp only [Int32.le_iff_toInt_le, Int32.lt_iff_toInt_lt, ← Int32.toInt_inj, vp_in_iff, Int32.reduceToInt] at c_2 c_4 b_1 hu hg hf ⊢) <;> omega) (F_X12_isWrong (by decide)) dX12_alarms_29 ?_
      exact v_iret (pc := 30) C (by decide) (by decide) dX12_alarms_30 ⟨(congrArg (fun q => some (Value.int q)) (by show _ = _; rw [V_X12_alarms, if_neg c_2])), rfl, (congrArg (fun q => wm q r) (by show _ = _; rw [S_X12_alarms, if_neg c_2]))⟩
    · skip
      exact absurd c_4 (fun q9 => q9 ((show (0 : Int32) = 0 from rfl)))
def V_X12_isMember (g : vS) (x : Int32) (u : Int32) : Int32 := (if (V_X12_isGroup g (x)) = 0 then 0 else (if (V_X12_isUser g (u)) = 0 then 0 else (if (g 52 (x).toNatClampNeg (u).toNatClampNeg) = 0 then 0 else 1)))
theorem B_X12_isMember {g : vS} {x : Int32} {u : Int32} : V_X12_isMember g x u = 0 ∨ V_X12_isMember g x u = 1 := by
  unfold V_X12_isMember
  (repeat' split) <;> first | exact Or.inl rfl | exact Or.inr rfl
def S_X12_isMember (g : vS) (x : Int32) (u : Int32) : vS := (if (V_X12_isGroup g (x)) = 0 then (S_X12_isWrong g (1)) else (if (V_X12_isUser g (u)) = 0 then (S_X12_isWrong g (1)) else (S_X12_isWrong g (0))))
theorem F_X12_isMember {g : vS} {x : Int32} {u : Int32} {c i j : Nat} (h1 : c ≠ 1) : S_X12_isMember g x u c i j = g c i j := by
  unfold S_X12_isMember
  (repeat' split) <;> first | rfl | ((simp only [s3_k h1, F_X12_isWrong h1]) <;> first | done | rfl)
set_option maxHeartbeats 4000000 in
set_option maxRecDepth 100000 in
theorem c_X12_isMember {G : vG} (hG : G.1.stackTraces = false) {A : vN → Nat} {g : vS} {r : vH} (x : Int32) (u : Int32) (hu0 : 0 ≤ (g 2 0 0).toInt) (hu : (g 2 0 0).toInt ≤ 6) (hg0 : 0 ≤ (g 3 0 0).toInt) (hg : (g 3 0 0).toInt ≤ 5) (hf0 : 0 ≤ (g 4 0 0).toInt) (hf : (g 4 0 0).toInt ≤ 20) : vCt G yX12_isMember cX12_isMember 3 (some .boolean) 2 [.ref (A (40, 0)), .int (x), .int (u)] A (wm g r) (fun v A2 h2 => v = some (.int (V_X12_isMember g x u)) ∧ A2 = A ∧ h2 = wm (S_X12_isMember g x u) r) (vNoX) 0 0 := by
  refine v_of hG (by decide +kernel) (Nat.le_of_ble_eq_true rfl) (lv := [(0, .ref (A (40, 0))), (1, .int (x)), (2, .int (u))]) rfl (fun X C hnx => ?_)
  have C : vC G X cX12_isMember 3 RX12 (some .boolean) "isMember" 2 0 0 := C
  refine v_aload_n (pc := 0) C dX12_isMember_0 0 rfl rfl ?_
  refine v_aload_n (pc := 1) C dX12_isMember_1 0 rfl rfl ?_
  refine v_iload_n (pc := 2) C dX12_isMember_2 1 rfl rfl ?_
  refine v_callV (pc := 3) C (40, 0) ck_40 rfl (c_X12_isGroup hG (x) ) 1 wd_1544 wd_68 wd_1541 wd_1543 wd_37 (by decide +kernel) (by decide) (by decide) rfl ([.ref (A (40, 0))]) rfl (Nat.le_of_ble_eq_true rfl) (by decide) dX12_isMember_3 (fun _ _ _ q => q.elim) (fun v9 A9 h9 hR9 => ?_)
  obtain ⟨rfl, hA9, rfl⟩ := hR9
  obtain rfl := hA9.symm
  refine v_st (k2 := 0) (n2 := 0) (st2 := [.int ((V_X12_isGroup g (x))), .ref (A (40, 0))]) rfl rfl rfl ?_
  have b_1 := ok_isGroup (g := g) (x := x) hg0
  refine v_if_eq (pc := 6) (tgt := 21) C dX12_isMember_6 (by decide) (fun c_2 => ?_) (fun c_2 => ?_)
  · skip
    refine v_iconst (v := 1) (pc := 21) C dX12_isMember_21 rfl ?_
    refine v_callV (pc := 22) C (40, 0) ck_40 rfl (c_X12_isWrong hG (1) ) 1 wd_1528 wd_68 wd_1525 wd_1527 wd_35 (by decide +kernel) (by decide) (by decide) rfl ([]) rfl (Nat.le_of_ble_eq_true rfl) (by decide) dX12_isMember_22 (fun _ _ _ q => q.elim) (fun v9 A9 h9 hR9 => ?_)
    obtain ⟨rfl, hA9, rfl⟩ := hR9
    obtain rfl := hA9.symm
    refine v_st (k2 := 0) (n2 := 0) (st2 := [.int ((V_X12_isWrong g (1)))]) rfl rfl rfl ?_
    refine v_if_ne (pc := 25) (tgt := 43) C dX12_isMember_25 (by decide) (fun c_3 => ?_) (fun c_3 => ?_)
    · skip
      refine v_iconst (v := 0) (pc := 43) C dX12_isMember_43 rfl ?_
      exact v_zret (pc := 44) C rfl (by decide) (by decide) dX12_isMember_44 ⟨(congrArg (fun q => some (Value.int q)) (by show _ = _; rw [V_X12_isMember, if_pos c_2])), rfl, (congrArg (fun q => wm q r) (by show _ = _; rw [S_X12_isMember, if_pos c_2]))⟩
    · skip
      exact absurd c_3 (fun q9 => ((show ¬ (1 : Int32) = 0 from by decide)) q9)
  · skip
    refine v_aload_n (pc := 9) C dX12_isMember_9 0 rfl rfl ?_
    refine v_iload_n (pc := 10) C dX12_isMember_10 2 rfl rfl ?_
    refine v_callV (pc := 11) C (40, 0) ck_40 rfl (c_X12_isUser hG (u) ) 1 wd_1536 wd_68 wd_1533 wd_1535 wd_36 (by decide +kernel) (by decide) (by decide) rfl ([.ref (A (40, 0))]) rfl (Nat.le_of_ble_eq_true rfl) (by decide) dX12_isMember_11 (fun _ _ _ q => q.elim) (fun v9 A9 h9 hR9 => ?_)
    obtain ⟨rfl, hA9, rfl⟩ := hR9
    obtain rfl := hA9.symm
    refine v_st (k2 := 0) (n2 := 0) (st2 := [.int ((V_X12_isUser g (u))), .ref (A (40, 0))]) rfl rfl rfl ?_
    have b_4 := ok_isUser (g := g) (x := u) hu0
    refine v_if_eq (pc := 14) (tgt := 21) C dX12_isMember_14 (by decide) (fun c_5 => ?_) (fun c_5 => ?_)
    · skip
      refine v_iconst (v := 1) (pc := 21) C dX12_isMember_21 rfl ?_
      refine v_callV (pc := 22) C (40, 0) ck_40 rfl (c_X12_isWrong hG (1) ) 1 wd_1528 wd_68 wd_1525 wd_1527 wd_35 (by decide +kernel) (by decide) (by decide) rfl ([]) rfl (Nat.le_of_ble_eq_true rfl) (by decide) dX12_isMember_22 (fun _ _ _ q => q.elim) (fun v9 A9 h9 hR9 => ?_)
      obtain ⟨rfl, hA9, rfl⟩ := hR9
      obtain rfl := hA9.symm
      refine v_st (k2 := 0) (n2 := 0) (st2 := [.int ((V_X12_isWrong g (1)))]) rfl rfl rfl ?_
      refine v_if_ne (pc := 25) (tgt := 43) C dX12_isMember_25 (by decide) (fun c_6 => ?_) (fun c_6 => ?_)
      · skip
        refine v_iconst (v := 0) (pc := 43) C dX12_isMember_43 rfl ?_
        exact v_zret (pc := 44) C rfl (by decide) (by decide) dX12_isMember_44 ⟨(congrArg (fun q => some (Value.int q)) (by show _ = _; rw [V_X12_isMember, if_neg c_2, if_pos c_5])), rfl, (congrArg (fun q => wm q r) (by show _ = _; rw [S_X12_isMember, if_neg c_2, if_pos c_5]))⟩
      · skip
        exact absurd c_6 (fun q9 => ((show ¬ (1 : Int32) = 0 from by decide)) q9)
    · skip
      refine v_iconst (v := 0) (pc := 17) C dX12_isMember_17 rfl ?_
      refine v_goto (tgt := 22) (pc := 18) C dX12_isMember_18 (by decide) ?_
      refine v_callV (pc := 22) C (40, 0) ck_40 rfl (c_X12_isWrong hG (0) ) 1 wd_1528 wd_68 wd_1525 wd_1527 wd_35 (by decide +kernel) (by decide) (by decide) rfl ([]) rfl (Nat.le_of_ble_eq_true rfl) (by decide) dX12_isMember_22 (fun _ _ _ q => q.elim) (fun v9 A9 h9 hR9 => ?_)
      obtain ⟨rfl, hA9, rfl⟩ := hR9
      obtain rfl := hA9.symm
      refine v_st (k2 := 0) (n2 := 0) (st2 := [.int ((V_X12_isWrong g (0)))]) rfl rfl rfl ?_
      refine v_if_ne (pc := 25) (tgt := 43) C dX12_isMember_25 (by decide) (fun c_7 => ?_) (fun c_7 => ?_)
      · skip
        exact absurd c_7 (fun q9 => q9 ((show (0 : Int32) = 0 from rfl)))
      · skip
        refine v_aload_n (pc := 28) C dX12_isMember_28 0 rfl rfl ?_
        refine v_get (pc := 29) C (40, 0) (v := .ref (A (51, 0))) ck_40 rfl 11 (by decide) inX12 wd_1396 rfl rfl dX12_isMember_29 ?_
        refine v_iload_n (pc := 32) C dX12_isMember_32 1 rfl rfl ?_
        refine v_aald (pc := 33) C (51, 0) ck_51 rfl rfl (by (try simp only [Int32.le_iff_toInt_le, Int32.lt_iff_toInt_lt, ← Int32.toInt_inj, vp_in_iff, Int32.reduceToInt] at c_2 c_5 c_7 b_1 b_4 hu hg hf ⊢) <;> omega) (52, (x).toNatClampNeg) rfl dX12_isMember_33 ?_
        refine v_iload_n (pc := 34) C dX12_isMember_34 2 rfl rfl ?_
        refine v_zald (pc := 35) C (52, (x).toNatClampNeg) (v := (g 52 (x).toNatClampNeg (u).toNatClampNeg)) (ck_52 (g := (S_X12_isWrong g (0))) (tn_lt (by (try simp only [Int32.le_iff_toInt_le, Int32.lt_iff_toInt_lt, ← Int32.toInt_inj, Int32.reduceToInt] at c_2 c_5 c_7 b_1 b_4 hu hg hf ⊢); omega))) (by (try simp only [Int32.le_iff_toInt_le, Int32.lt_iff_toInt_lt, ← Int32.toInt_inj, vp_in_iff, Int32.reduceToInt] at c_2 c_5 c_7 b_1 b_4 hu hg hf ⊢) <;> omega) (F_X12_isWrong (by decide)) dX12_isMember_35 ?_
        refine v_if_eq (pc := 36) (tgt := 43) C dX12_isMember_36 (by decide) (fun c_8 => ?_) (fun c_8 => ?_)
        · skip
          refine v_iconst (v := 0) (pc := 43) C dX12_isMember_43 rfl ?_
          exact v_zret (pc := 44) C rfl (by decide) (by decide) dX12_isMember_44 ⟨(congrArg (fun q => some (Value.int q)) (by show _ = _; rw [V_X12_isMember, if_neg c_2, if_neg c_5, if_pos c_8])), rfl, (congrArg (fun q => wm q r) (by show _ = _; rw [S_X12_isMember, if_neg c_2, if_neg c_5]))⟩
        · skip
          refine v_iconst (v := 1) (pc := 39) C dX12_isMember_39 rfl ?_
          refine v_goto (tgt := 44) (pc := 40) C dX12_isMember_40 (by decide) ?_
          exact v_zret (pc := 44) C rfl (by decide) (by decide) dX12_isMember_44 ⟨(congrArg (fun q => some (Value.int q)) (by show _ = _; rw [V_X12_isMember, if_neg c_2, if_neg c_5, if_neg c_8])), rfl, (congrArg (fun q => wm q r) (by show _ = _; rw [S_X12_isMember, if_neg c_2, if_neg c_5]))⟩
def V_X12_leaves (g : vS)  : Int32 := (g 11 0 0)
def S_X12_leaves (g : vS)  : vS := (s3 g 1 0 0 (0))
theorem F_X12_leaves {g : vS}  {c i j : Nat} (h1 : c ≠ 1) : S_X12_leaves g c i j = g c i j := by
  unfold S_X12_leaves
  (repeat' split) <;> first | rfl | ((simp only [s3_k h1]) <;> first | done | rfl)
set_option maxHeartbeats 4000000 in
set_option maxRecDepth 100000 in
theorem c_X12_leaves {G : vG} (hG : G.1.stackTraces = false) {A : vN → Nat} {g : vS} {r : vH}   : vCt G yX12_leaves cX12_leaves 1 (some .int) 0 [.ref (A (40, 0))] A (wm g r) (fun v A2 h2 => v = some (.int (V_X12_leaves g)) ∧ A2 = A ∧ h2 = wm (S_X12_leaves g) r) (vNoX) 0 0 := by
  refine v_of hG (by decide +kernel) (Nat.le_of_ble_eq_true rfl) (lv := [(0, .ref (A (40, 0)))]) rfl (fun X C hnx => ?_)
  have C : vC G X cX12_leaves 1 RX12 (some .int) "leaves" 0 0 0 := C
  refine v_aload_n (pc := 0) C dX12_leaves_0 0 rfl rfl ?_
  refine v_iconst (v := 0) (pc := 1) C dX12_leaves_1 rfl ?_
  refine v_put (pc := 2) C (40, 0) (v := .int (0)) ck_40 rfl 0 (by decide) inX12 tyX12 tyX12_ok nmX12 wd_1385 rfl (.inl (Value.int (0))) rfl (ty := tyX12 0) (by decide +kernel) rfl rfl (Nat.le_of_ble_eq_true rfl) dX12_leaves_2 ?_
  refine v_h (h2 := (wm (s3 g 1 0 0 (0)) r)) (u_40_0) ?_
  refine v_aload_n (pc := 5) C dX12_leaves_5 0 rfl rfl ?_
  refine v_get (pc := 6) C (40, 0) (v := .int ((g 11 0 0))) ck_40 rfl 36 (by decide) inX12 wd_1421 rfl rfl dX12_leaves_6 ?_
  exact v_iret (pc := 9) C (by decide) (by decide) dX12_leaves_9 ⟨(congrArg (fun q => some (Value.int q)) (by show _ = _; rw [V_X12_leaves])), rfl, (congrArg (fun q => wm q r) (by show _ = _; rw [S_X12_leaves]))⟩
def V_X12_conflicts (g : vS)  : Int32 := (g 12 0 0)
def S_X12_conflicts (g : vS)  : vS := (s3 g 1 0 0 (0))
theorem F_X12_conflicts {g : vS}  {c i j : Nat} (h1 : c ≠ 1) : S_X12_conflicts g c i j = g c i j := by
  unfold S_X12_conflicts
  (repeat' split) <;> first | rfl | ((simp only [s3_k h1]) <;> first | done | rfl)
set_option maxHeartbeats 4000000 in
set_option maxRecDepth 100000 in
theorem c_X12_conflicts {G : vG} (hG : G.1.stackTraces = false) {A : vN → Nat} {g : vS} {r : vH}   : vCt G yX12_conflicts cX12_conflicts 1 (some .int) 0 [.ref (A (40, 0))] A (wm g r) (fun v A2 h2 => v = some (.int (V_X12_conflicts g)) ∧ A2 = A ∧ h2 = wm (S_X12_conflicts g) r) (vNoX) 0 0 := by
  refine v_of hG (by decide +kernel) (Nat.le_of_ble_eq_true rfl) (lv := [(0, .ref (A (40, 0)))]) rfl (fun X C hnx => ?_)
  have C : vC G X cX12_conflicts 1 RX12 (some .int) "conflicts" 0 0 0 := C
  refine v_aload_n (pc := 0) C dX12_conflicts_0 0 rfl rfl ?_
  refine v_iconst (v := 0) (pc := 1) C dX12_conflicts_1 rfl ?_
  refine v_put (pc := 2) C (40, 0) (v := .int (0)) ck_40 rfl 0 (by decide) inX12 tyX12 tyX12_ok nmX12 wd_1385 rfl (.inl (Value.int (0))) rfl (ty := tyX12 0) (by decide +kernel) rfl rfl (Nat.le_of_ble_eq_true rfl) dX12_conflicts_2 ?_
  refine v_h (h2 := (wm (s3 g 1 0 0 (0)) r)) (u_40_0) ?_
  refine v_aload_n (pc := 5) C dX12_conflicts_5 0 rfl rfl ?_
  refine v_get (pc := 6) C (40, 0) (v := .int ((g 12 0 0))) ck_40 rfl 43 (by decide) inX12 wd_1428 rfl rfl dX12_conflicts_6 ?_
  exact v_iret (pc := 9) C (by decide) (by decide) dX12_conflicts_9 ⟨(congrArg (fun q => some (Value.int q)) (by show _ = _; rw [V_X12_conflicts])), rfl, (congrArg (fun q => wm q r) (by show _ = _; rw [S_X12_conflicts]))⟩
def S_X12_adds (g : vS) (x : Int32) : vS := (s3 (s3 g 73 ((g 11 0 0)).toNatClampNeg 0 (x)) 11 0 0 (((g 11 0 0) + 1)))
theorem F_X12_adds {g : vS} {x : Int32} {c i j : Nat} (h11 : c ≠ 11) (h73 : c ≠ 73) : S_X12_adds g x c i j = g c i j := by
  unfold S_X12_adds
  (repeat' split) <;> first | rfl | ((simp only [s3_k h11, s3_k h73]) <;> first | done | rfl)
set_option maxHeartbeats 4000000 in
set_option maxRecDepth 100000 in
theorem c_X12_adds {G : vG} (hG : G.1.stackTraces = false) {A : vN → Nat} {g : vS} {r : vH} (x : Int32) (hu0 : 0 ≤ (g 2 0 0).toInt) (hu : (g 2 0 0).toInt ≤ 6) (hg0 : 0 ≤ (g 3 0 0).toInt) (hg : (g 3 0 0).toInt ≤ 5) (hf0 : 0 ≤ (g 4 0 0).toInt) (hf : (g 4 0 0).toInt ≤ 20) (hl0 : 0 ≤ (g 11 0 0).toInt) (hl9 : (g 11 0 0).toInt < 300) : vCt G yX12_adds cX12_adds 2 none 0 [.ref (A (40, 0)), .int (x)] A (wm g r) (fun v A2 h2 => v = none ∧ A2 = A ∧ h2 = wm (S_X12_adds g x) r) (vNoX) 0 0 := by
  refine v_of hG (by decide +kernel) (Nat.le_of_ble_eq_true rfl) (lv := [(0, .ref (A (40, 0))), (1, .int (x))]) rfl (fun X C hnx => ?_)
  have C : vC G X cX12_adds 2 RX12 none "adds" 0 0 0 := C
  refine v_aload_n (pc := 0) C dX12_adds_0 0 rfl rfl ?_
  refine v_get (pc := 1) C (40, 0) (v := .ref (A (73, 0))) ck_40 rfl 35 (by decide) inX12 wd_1420 rfl rfl dX12_adds_1 ?_
  refine v_aload_n (pc := 4) C dX12_adds_4 0 rfl rfl ?_
  refine v_get (pc := 5) C (40, 0) (v := .int ((g 11 0 0))) ck_40 rfl 36 (by decide) inX12 wd_1421 rfl rfl dX12_adds_5 ?_
  refine v_iload_n (pc := 8) C dX12_adds_8 1 rfl rfl ?_
  refine v_iast (pc := 9) C (73, 0) (x := x) ck_73 (by (try simp only [Int32.le_iff_toInt_le, Int32.lt_iff_toInt_lt, ← Int32.toInt_inj, vp_in_iff, Int32.reduceToInt] at hu hg hf hl0 ⊢) <;> omega) dX12_adds_9 ?_
  refine v_h (h2 := (wm (s3 g 73 ((g 11 0 0)).toNatClampNeg 0 (x)) r)) (u_73_a) ?_
  refine v_aload_n (pc := 10) C dX12_adds_10 0 rfl rfl ?_
  refine v_dup (pc := 11) C dX12_adds_11 rfl ?_
  refine v_get (pc := 12) C (40, 0) (v := .int ((g 11 0 0))) ck_40 rfl 36 (by decide) inX12 wd_1421 rfl rfl dX12_adds_12 ?_
  refine v_iconst (v := 1) (pc := 15) C dX12_adds_15 rfl ?_
  refine v_iadd (pc := 16) C dX12_adds_16 ?_
  refine v_put (pc := 17) C (40, 0) (v := .int (((g 11 0 0) + 1))) ck_40 rfl 36 (by decide) inX12 tyX12 tyX12_ok nmX12 wd_1421 rfl (.inl (Value.int (((g 11 0 0) + 1)))) rfl (ty := tyX12 36) (by decide +kernel) rfl rfl (Nat.le_of_ble_eq_true rfl) dX12_adds_17 ?_
  refine v_h (h2 := (wm (s3 (s3 g 73 ((g 11 0 0)).toNatClampNeg 0 (x)) 11 0 0 (((g 11 0 0) + 1))) r)) (u_40_36) ?_
  exact v_vret (pc := 20) C (by decide) (by decide) dX12_adds_20 ⟨rfl, rfl, (congrArg (fun q => wm q r) (by show _ = _; rw [S_X12_adds]))⟩
