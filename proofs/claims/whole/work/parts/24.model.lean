def V_X12_thrown (g : vS)  : Int32 := (g 1 0 0)
set_option maxHeartbeats 4000000 in
set_option maxRecDepth 100000 in
theorem c_X12_thrown {G : vG} (hG : G.1.stackTraces = false) {A : vN → Nat} {g : vS} {r : vH}   : vCt G yX12_thrown cX12_thrown 1 (some .int) 0 [.ref (A (40, 0))] A (wm g r) (fun v A2 h2 => v = some (.int (V_X12_thrown g)) ∧ A2 = A ∧ h2 = wm g r) (vNoX) 0 0 := by
  refine v_of hG (by decide +kernel) (Nat.le_of_ble_eq_true rfl) (lv := [(0, .ref (A (40, 0)))]) rfl (fun X C hnx => ?_)
  have C : vC G X cX12_thrown 1 RX12 (some .int) "thrown" 0 0 0 := C
  refine v_aload_n (pc := 0) C dX12_thrown_0 0 rfl rfl ?_
  refine v_get (pc := 1) C (40, 0) (v := .int ((g 1 0 0))) ck_40 rfl 0 (by decide) inX12 wd_1388 rfl rfl dX12_thrown_1 ?_
  exact v_iret (pc := 4) C (by decide) (by decide) dX12_thrown_4 ⟨(congrArg (fun q => some (Value.int q)) (by show _ = _; rw [V_X12_thrown])), rfl, rfl⟩
def V_X12_isWrong (g : vS) (x : Int32) : Int32 := (if x ≤ 0 then 0 else 1)
theorem B_X12_isWrong {g : vS} {x : Int32} : V_X12_isWrong g x = 0 ∨ V_X12_isWrong g x = 1 := by
  unfold V_X12_isWrong
  (repeat' split) <;> first | exact Or.inl rfl | exact Or.inr rfl
def S_X12_isWrong (g : vS) (x : Int32) : vS := (s3 g 1 0 0 (x))
theorem F_X12_isWrong {g : vS} {x : Int32} {c i j : Nat} (h1 : c ≠ 1) : S_X12_isWrong g x c i j = g c i j := by
  unfold S_X12_isWrong
  (repeat' split) <;> first | rfl | ((simp only [s3_k h1]) <;> first | done | rfl)
set_option maxHeartbeats 4000000 in
set_option maxRecDepth 100000 in
theorem c_X12_isWrong {G : vG} (hG : G.1.stackTraces = false) {A : vN → Nat} {g : vS} {r : vH} (x : Int32)  : vCt G yX12_isWrong cX12_isWrong 2 (some .boolean) 0 [.ref (A (40, 0)), .int (x)] A (wm g r) (fun v A2 h2 => v = some (.int (V_X12_isWrong g x)) ∧ A2 = A ∧ h2 = wm (S_X12_isWrong g x) r) (vNoX) 0 0 := by
  refine v_of hG (by decide +kernel) (Nat.le_of_ble_eq_true rfl) (lv := [(0, .ref (A (40, 0))), (1, .int (x))]) rfl (fun X C hnx => ?_)
  have C : vC G X cX12_isWrong 2 RX12 (some .boolean) "isWrong" 0 0 0 := C
  refine v_aload_n (pc := 0) C dX12_isWrong_0 0 rfl rfl ?_
  refine v_iload_n (pc := 1) C dX12_isWrong_1 1 rfl rfl ?_
  refine v_put (pc := 2) C (40, 0) (v := .int (x)) ck_40 rfl 0 (by decide) inX12 tyX12 tyX12_ok nmX12 wd_1388 rfl (.inl (Value.int (x))) rfl (ty := tyX12 0) (by decide +kernel) rfl rfl (Nat.le_of_ble_eq_true rfl) dX12_isWrong_2 ?_
  refine v_h (h2 := (wm (s3 g 1 0 0 (x)) r)) (u_40_0) ?_
  refine v_iload_n (pc := 5) C dX12_isWrong_5 1 rfl rfl ?_
  refine v_if_le (pc := 6) (tgt := 13) C dX12_isWrong_6 (by decide) (fun c_1 => ?_) (fun c_1 => ?_)
  · skip
    refine v_iconst (v := 0) (pc := 13) C dX12_isWrong_13 rfl ?_
    exact v_zret (pc := 14) C rfl (by decide) (by decide) dX12_isWrong_14 ⟨(congrArg (fun q => some (Value.int q)) (by show _ = _; rw [V_X12_isWrong, if_pos c_1])), rfl, (congrArg (fun q => wm q r) (by show _ = _; rw [S_X12_isWrong]))⟩
  · skip
    refine v_iconst (v := 1) (pc := 9) C dX12_isWrong_9 rfl ?_
    refine v_goto (tgt := 14) (pc := 10) C dX12_isWrong_10 (by decide) ?_
    exact v_zret (pc := 14) C rfl (by decide) (by decide) dX12_isWrong_14 ⟨(congrArg (fun q => some (Value.int q)) (by show _ = _; rw [V_X12_isWrong, if_neg c_1])), rfl, (congrArg (fun q => wm q r) (by show _ = _; rw [S_X12_isWrong]))⟩
def V_X12_isBetween (g : vS) (x : Int32) (a : Int32) (b : Int32) : Int32 := (if x < a then 0 else (if b < x then 0 else 1))
theorem B_X12_isBetween {g : vS} {x : Int32} {a : Int32} {b : Int32} : V_X12_isBetween g x a b = 0 ∨ V_X12_isBetween g x a b = 1 := by
  unfold V_X12_isBetween
  (repeat' split) <;> first | exact Or.inl rfl | exact Or.inr rfl
set_option maxHeartbeats 4000000 in
set_option maxRecDepth 100000 in
theorem c_X12_isBetween {G : vG} (hG : G.1.stackTraces = false) {A : vN → Nat} {g : vS} {r : vH} (x : Int32) (a : Int32) (b : Int32)  : vCt G yX12_isBetween cX12_isBetween 3 (some .boolean) 0 [.int (x), .int (a), .int (b)] A (wm g r) (fun v A2 h2 => v = some (.int (V_X12_isBetween g x a b)) ∧ A2 = A ∧ h2 = wm g r) (vNoX) 0 0 := by
  refine v_of hG (by decide +kernel) (Nat.le_of_ble_eq_true rfl) (lv := [(0, .int (x)), (1, .int (a)), (2, .int (b))]) rfl (fun X C hnx => ?_)
  have C : vC G X cX12_isBetween 3 RX12 (some .boolean) "isBetween" 0 0 0 := C
  refine v_iload_n (pc := 0) C dX12_isBetween_0 1 rfl rfl ?_
  refine v_iload_n (pc := 1) C dX12_isBetween_1 0 rfl rfl ?_
  refine v_icmp_gt (pc := 2) (tgt := 14) C dX12_isBetween_2 (by decide) (fun c_1 => ?_) (fun c_1 => ?_)
  · skip
    refine v_iconst (v := 0) (pc := 14) C dX12_isBetween_14 rfl ?_
    exact v_zret (pc := 15) C rfl (by decide) (by decide) dX12_isBetween_15 ⟨(congrArg (fun q => some (Value.int q)) (by show _ = _; rw [V_X12_isBetween, if_pos c_1])), rfl, rfl⟩
  · skip
    refine v_iload_n (pc := 5) C dX12_isBetween_5 0 rfl rfl ?_
    refine v_iload_n (pc := 6) C dX12_isBetween_6 2 rfl rfl ?_
    refine v_icmp_gt (pc := 7) (tgt := 14) C dX12_isBetween_7 (by decide) (fun c_2 => ?_) (fun c_2 => ?_)
    · skip
      refine v_iconst (v := 0) (pc := 14) C dX12_isBetween_14 rfl ?_
      exact v_zret (pc := 15) C rfl (by decide) (by decide) dX12_isBetween_15 ⟨(congrArg (fun q => some (Value.int q)) (by show _ = _; rw [V_X12_isBetween, if_neg c_1, if_pos c_2])), rfl, rfl⟩
    · skip
      refine v_iconst (v := 1) (pc := 10) C dX12_isBetween_10 rfl ?_
      refine v_goto (tgt := 15) (pc := 11) C dX12_isBetween_11 (by decide) ?_
      exact v_zret (pc := 15) C rfl (by decide) (by decide) dX12_isBetween_15 ⟨(congrArg (fun q => some (Value.int q)) (by show _ = _; rw [V_X12_isBetween, if_neg c_1, if_neg c_2])), rfl, rfl⟩
def V_X12_isUser (g : vS) (x : Int32) : Int32 := (V_X12_isBetween g (x) (0) (((g 2 0 0) - 1)))
theorem B_X12_isUser {g : vS} {x : Int32} : V_X12_isUser g x = 0 ∨ V_X12_isUser g x = 1 := by
  unfold V_X12_isUser
  (repeat' split) <;> first | exact Or.inl rfl | exact Or.inr rfl | exact B_X12_isBetween
set_option maxHeartbeats 4000000 in
set_option maxRecDepth 100000 in
theorem c_X12_isUser {G : vG} (hG : G.1.stackTraces = false) {A : vN → Nat} {g : vS} {r : vH} (x : Int32)  : vCt G yX12_isUser cX12_isUser 2 (some .boolean) 1 [.ref (A (40, 0)), .int (x)] A (wm g r) (fun v A2 h2 => v = some (.int (V_X12_isUser g x)) ∧ A2 = A ∧ h2 = wm g r) (vNoX) 0 0 := by
  refine v_of hG (by decide +kernel) (Nat.le_of_ble_eq_true rfl) (lv := [(0, .ref (A (40, 0))), (1, .int (x))]) rfl (fun X C hnx => ?_)
  have C : vC G X cX12_isUser 2 RX12 (some .boolean) "isUser" 1 0 0 := C
  refine v_iload_n (pc := 0) C dX12_isUser_0 1 rfl rfl ?_
  refine v_iconst (v := 0) (pc := 1) C dX12_isUser_1 rfl ?_
  refine v_aload_n (pc := 2) C dX12_isUser_2 0 rfl rfl ?_
  refine v_get (pc := 3) C (40, 0) (v := .int ((g 2 0 0))) ck_40 rfl 13 (by decide) inX12 wd_1401 rfl rfl dX12_isUser_3 ?_
  refine v_iconst (v := 1) (pc := 6) C dX12_isUser_6 rfl ?_
  refine v_isub (pc := 7) C dX12_isUser_7 ?_
  refine v_callS (pc := 8) C (c_X12_isBetween hG (x) (0) (((g 2 0 0) - 1)) ) 3 wd_1527 wd_68 wd_1525 wd_1526 (by decide +kernel) (by decide) (by decide) rfl ([]) rfl (Nat.le_of_ble_eq_true rfl) (by decide) dX12_isUser_8 (fun _ _ _ q => q.elim) (fun v9 A9 h9 hR9 => ?_)
  obtain ⟨rfl, hA9, rfl⟩ := hR9
  obtain rfl := hA9.symm
  refine v_st (k2 := 0) (n2 := 0) (st2 := [.int ((V_X12_isBetween g (x) (0) (((g 2 0 0) - 1))))]) rfl rfl rfl ?_
  exact v_zret (pc := 11) C (nar_b B_X12_isBetween) (by decide) (by decide) dX12_isUser_11 ⟨(congrArg (fun q => some (Value.int q)) (by show _ = _; rw [V_X12_isUser])), rfl, rfl⟩
def V_X12_isGroup (g : vS) (x : Int32) : Int32 := (V_X12_isBetween g (x) (0) (((g 3 0 0) - 1)))
theorem B_X12_isGroup {g : vS} {x : Int32} : V_X12_isGroup g x = 0 ∨ V_X12_isGroup g x = 1 := by
  unfold V_X12_isGroup
  (repeat' split) <;> first | exact Or.inl rfl | exact Or.inr rfl | exact B_X12_isBetween
set_option maxHeartbeats 4000000 in
set_option maxRecDepth 100000 in
theorem c_X12_isGroup {G : vG} (hG : G.1.stackTraces = false) {A : vN → Nat} {g : vS} {r : vH} (x : Int32)  : vCt G yX12_isGroup cX12_isGroup 2 (some .boolean) 1 [.ref (A (40, 0)), .int (x)] A (wm g r) (fun v A2 h2 => v = some (.int (V_X12_isGroup g x)) ∧ A2 = A ∧ h2 = wm g r) (vNoX) 0 0 := by
  refine v_of hG (by decide +kernel) (Nat.le_of_ble_eq_true rfl) (lv := [(0, .ref (A (40, 0))), (1, .int (x))]) rfl (fun X C hnx => ?_)
  have C : vC G X cX12_isGroup 2 RX12 (some .boolean) "isGroup" 1 0 0 := C
  refine v_iload_n (pc := 0) C dX12_isGroup_0 1 rfl rfl ?_
  refine v_iconst (v := 0) (pc := 1) C dX12_isGroup_1 rfl ?_
  refine v_aload_n (pc := 2) C dX12_isGroup_2 0 rfl rfl ?_
  refine v_get (pc := 3) C (40, 0) (v := .int ((g 3 0 0))) ck_40 rfl 14 (by decide) inX12 wd_1402 rfl rfl dX12_isGroup_3 ?_
  refine v_iconst (v := 1) (pc := 6) C dX12_isGroup_6 rfl ?_
  refine v_isub (pc := 7) C dX12_isGroup_7 ?_
  refine v_callS (pc := 8) C (c_X12_isBetween hG (x) (0) (((g 3 0 0) - 1)) ) 3 wd_1527 wd_68 wd_1525 wd_1526 (by decide +kernel) (by decide) (by decide) rfl ([]) rfl (Nat.le_of_ble_eq_true rfl) (by decide) dX12_isGroup_8 (fun _ _ _ q => q.elim) (fun v9 A9 h9 hR9 => ?_)
  obtain ⟨rfl, hA9, rfl⟩ := hR9
  obtain rfl := hA9.symm
  refine v_st (k2 := 0) (n2 := 0) (st2 := [.int ((V_X12_isBetween g (x) (0) (((g 3 0 0) - 1))))]) rfl rfl rfl ?_
  exact v_zret (pc := 11) C (nar_b B_X12_isBetween) (by decide) (by decide) dX12_isGroup_11 ⟨(congrArg (fun q => some (Value.int q)) (by show _ = _; rw [V_X12_isGroup])), rfl, rfl⟩
def V_X12_isFile (g : vS) (x : Int32) : Int32 := (V_X12_isBetween g (x) (0) (((g 4 0 0) - 1)))
theorem B_X12_isFile {g : vS} {x : Int32} : V_X12_isFile g x = 0 ∨ V_X12_isFile g x = 1 := by
  unfold V_X12_isFile
  (repeat' split) <;> first | exact Or.inl rfl | exact Or.inr rfl | exact B_X12_isBetween
set_option maxHeartbeats 4000000 in
set_option maxRecDepth 100000 in
theorem c_X12_isFile {G : vG} (hG : G.1.stackTraces = false) {A : vN → Nat} {g : vS} {r : vH} (x : Int32)  : vCt G yX12_isFile cX12_isFile 2 (some .boolean) 1 [.ref (A (40, 0)), .int (x)] A (wm g r) (fun v A2 h2 => v = some (.int (V_X12_isFile g x)) ∧ A2 = A ∧ h2 = wm g r) (vNoX) 0 0 := by
  refine v_of hG (by decide +kernel) (Nat.le_of_ble_eq_true rfl) (lv := [(0, .ref (A (40, 0))), (1, .int (x))]) rfl (fun X C hnx => ?_)
  have C : vC G X cX12_isFile 2 RX12 (some .boolean) "isFile" 1 0 0 := C
  refine v_iload_n (pc := 0) C dX12_isFile_0 1 rfl rfl ?_
  refine v_iconst (v := 0) (pc := 1) C dX12_isFile_1 rfl ?_
  refine v_aload_n (pc := 2) C dX12_isFile_2 0 rfl rfl ?_
  refine v_get (pc := 3) C (40, 0) (v := .int ((g 4 0 0))) ck_40 rfl 24 (by decide) inX12 wd_1412 rfl rfl dX12_isFile_3 ?_
  refine v_iconst (v := 1) (pc := 6) C dX12_isFile_6 rfl ?_
  refine v_isub (pc := 7) C dX12_isFile_7 ?_
  refine v_callS (pc := 8) C (c_X12_isBetween hG (x) (0) (((g 4 0 0) - 1)) ) 3 wd_1527 wd_68 wd_1525 wd_1526 (by decide +kernel) (by decide) (by decide) rfl ([]) rfl (Nat.le_of_ble_eq_true rfl) (by decide) dX12_isFile_8 (fun _ _ _ q => q.elim) (fun v9 A9 h9 hR9 => ?_)
  obtain ⟨rfl, hA9, rfl⟩ := hR9
  obtain rfl := hA9.symm
  refine v_st (k2 := 0) (n2 := 0) (st2 := [.int ((V_X12_isBetween g (x) (0) (((g 4 0 0) - 1))))]) rfl rfl rfl ?_
  exact v_zret (pc := 11) C (nar_b B_X12_isBetween) (by decide) (by decide) dX12_isFile_11 ⟨(congrArg (fun q => some (Value.int q)) (by show _ = _; rw [V_X12_isFile])), rfl, rfl⟩
def V_X12_isPart (g : vS) (x : Int32) : Int32 := (V_X12_isBetween g (x) (0) (7))
theorem B_X12_isPart {g : vS} {x : Int32} : V_X12_isPart g x = 0 ∨ V_X12_isPart g x = 1 := by
  unfold V_X12_isPart
  (repeat' split) <;> first | exact Or.inl rfl | exact Or.inr rfl | exact B_X12_isBetween
set_option maxHeartbeats 4000000 in
set_option maxRecDepth 100000 in
theorem c_X12_isPart {G : vG} (hG : G.1.stackTraces = false) {A : vN → Nat} {g : vS} {r : vH} (x : Int32)  : vCt G yX12_isPart cX12_isPart 1 (some .boolean) 1 [.int (x)] A (wm g r) (fun v A2 h2 => v = some (.int (V_X12_isPart g x)) ∧ A2 = A ∧ h2 = wm g r) (vNoX) 0 0 := by
  refine v_of hG (by decide +kernel) (Nat.le_of_ble_eq_true rfl) (lv := [(0, .int (x))]) rfl (fun X C hnx => ?_)
  have C : vC G X cX12_isPart 1 RX12 (some .boolean) "isPart" 1 0 0 := C
  refine v_iload_n (pc := 0) C dX12_isPart_0 0 rfl rfl ?_
  refine v_iconst (v := 0) (pc := 1) C dX12_isPart_1 rfl ?_
  refine v_bipush (v := 7) (pc := 2) C dX12_isPart_2 (by decide) ?_
  refine v_callS (pc := 4) C (c_X12_isBetween hG (x) (0) (7) ) 3 wd_1527 wd_68 wd_1525 wd_1526 (by decide +kernel) (by decide) (by decide) rfl ([]) rfl (Nat.le_of_ble_eq_true rfl) (by decide) dX12_isPart_4 (fun _ _ _ q => q.elim) (fun v9 A9 h9 hR9 => ?_)
  obtain ⟨rfl, hA9, rfl⟩ := hR9
  obtain rfl := hA9.symm
  refine v_st (k2 := 0) (n2 := 0) (st2 := [.int ((V_X12_isBetween g (x) (0) (7)))]) rfl rfl rfl ?_
  exact v_zret (pc := 7) C (nar_b B_X12_isBetween) (by decide) (by decide) dX12_isPart_7 ⟨(congrArg (fun q => some (Value.int q)) (by show _ = _; rw [V_X12_isPart])), rfl, rfl⟩
def V_X12_isFull (g : vS)  : Int32 := (if (g 11 0 0) = 300 then 1 else 0)
theorem B_X12_isFull {g : vS}  : V_X12_isFull g = 0 ∨ V_X12_isFull g = 1 := by
  unfold V_X12_isFull
  (repeat' split) <;> first | exact Or.inl rfl | exact Or.inr rfl
set_option maxHeartbeats 4000000 in
set_option maxRecDepth 100000 in
theorem c_X12_isFull {G : vG} (hG : G.1.stackTraces = false) {A : vN → Nat} {g : vS} {r : vH}   : vCt G yX12_isFull cX12_isFull 1 (some .boolean) 0 [.ref (A (40, 0))] A (wm g r) (fun v A2 h2 => v = some (.int (V_X12_isFull g)) ∧ A2 = A ∧ h2 = wm g r) (vNoX) 0 0 := by
  refine v_of hG (by decide +kernel) (Nat.le_of_ble_eq_true rfl) (lv := [(0, .ref (A (40, 0)))]) rfl (fun X C hnx => ?_)
  have C : vC G X cX12_isFull 1 RX12 (some .boolean) "isFull" 0 0 0 := C
  refine v_aload_n (pc := 0) C dX12_isFull_0 0 rfl rfl ?_
  refine v_get (pc := 1) C (40, 0) (v := .int ((g 11 0 0))) ck_40 rfl 36 (by decide) inX12 wd_1424 rfl rfl dX12_isFull_1 ?_
  refine v_sipush (v := 300) (pc := 4) C dX12_isFull_4 (by decide) ?_
  refine v_icmp_ne (pc := 7) (tgt := 14) C dX12_isFull_7 (by decide) (fun c_1 => ?_) (fun c_1 => ?_)
  · skip
    refine v_iconst (v := 0) (pc := 14) C dX12_isFull_14 rfl ?_
    exact v_zret (pc := 15) C rfl (by decide) (by decide) dX12_isFull_15 ⟨(congrArg (fun q => some (Value.int q)) (by show _ = _; rw [V_X12_isFull, if_neg c_1])), rfl, rfl⟩
  · skip
    refine v_iconst (v := 1) (pc := 10) C dX12_isFull_10 rfl ?_
    refine v_goto (tgt := 15) (pc := 11) C dX12_isFull_11 (by decide) ?_
    exact v_zret (pc := 15) C rfl (by decide) (by decide) dX12_isFull_15 ⟨(congrArg (fun q => some (Value.int q)) (by show _ = _; rw [V_X12_isFull, if_pos c_1])), rfl, rfl⟩

theorem or_bit0 {x : Int32} (h : x = 0 ∨ x = 1) : x ||| 0 = 0 ∨ x ||| 0 = 1 := by rcases h with rfl | rfl <;> decide
theorem or_bit1 {x : Int32} (h : x = 0 ∨ x = 1) : x ||| 1 = 0 ∨ x ||| 1 = 1 := by rcases h with rfl | rfl <;> decide
theorem ok_btw {g : vS} {x a b : Int32} : (V_X12_isBetween g x a b).toInt = 0 ∨ (a.toInt ≤ x.toInt ∧ x.toInt ≤ b.toInt) := by
  unfold V_X12_isBetween
  (repeat' split) <;> first | exact Or.inl (by decide) | (right; simp only [Int32.lt_iff_toInt_lt] at *; omega)
theorem ok_isFull {g : vS} : ¬ (V_X12_isFull g).toInt = 0 ∨ ¬ (g 11 0 0).toInt = 300 := by
  unfold V_X12_isFull
  split
  · exact Or.inl (by decide)
  · rename_i h; exact Or.inr (fun z => h (Int32.toInt_inj.mp (z.trans (by decide))))
theorem i32_sub1 {x : Int32} (h : 0 ≤ x.toInt) : (x - 1).toInt = x.toInt - 1 := by
  have h1 := Int32.toInt_lt x
  rw [Int32.toInt_sub, show (1 : Int32).toInt = 1 from by decide]
  apply Int.bmod_eq_of_le <;> omega
theorem ok_isUser {g : vS} {x : Int32} (h : 0 ≤ (g 2 0 0).toInt) : (V_X12_isUser g x).toInt = 0 ∨ (0 ≤ x.toInt ∧ x.toInt < (g 2 0 0).toInt) := by
  have := ok_btw (g := g) (x := x) (a := 0) (b := g 2 0 0 - 1)
  rw [i32_sub1 h] at this
  simp only [Int32.reduceToInt] at this
  unfold V_X12_isUser
  omega
theorem ok_isGroup {g : vS} {x : Int32} (h : 0 ≤ (g 3 0 0).toInt) : (V_X12_isGroup g x).toInt = 0 ∨ (0 ≤ x.toInt ∧ x.toInt < (g 3 0 0).toInt) := by
  have := ok_btw (g := g) (x := x) (a := 0) (b := g 3 0 0 - 1)
  rw [i32_sub1 h] at this
  simp only [Int32.reduceToInt] at this
  unfold V_X12_isGroup
  omega
theorem ok_isFile {g : vS} {x : Int32} (h : 0 ≤ (g 4 0 0).toInt) : (V_X12_isFile g x).toInt = 0 ∨ (0 ≤ x.toInt ∧ x.toInt < (g 4 0 0).toInt) := by
  have := ok_btw (g := g) (x := x) (a := 0) (b := g 4 0 0 - 1)
  rw [i32_sub1 h] at this
  simp only [Int32.reduceToInt] at this
  unfold V_X12_isFile
  omega
theorem ok_isPart {g : vS} {x : Int32} : (V_X12_isPart g x).toInt = 0 ∨ (0 ≤ x.toInt ∧ x.toInt < 8) := by
  have := ok_btw (g := g) (x := x) (a := 0) (b := 7)
  simp only [Int32.reduceToInt] at this
  unfold V_X12_isPart
  omega

def V_X12_epoch (g : vS) (x : Int32) : Int32 := (if (V_X12_isGroup g (x)) = 0 then 0 else (g 50 (x).toNatClampNeg 0))
def S_X12_epoch (g : vS) (x : Int32) : vS := (if (V_X12_isGroup g (x)) = 0 then (S_X12_isWrong g (1)) else (S_X12_isWrong g (0)))
theorem F_X12_epoch {g : vS} {x : Int32} {c i j : Nat} (h1 : c ≠ 1) : S_X12_epoch g x c i j = g c i j := by
  unfold S_X12_epoch
  (repeat' split) <;> first | rfl | ((simp only [s3_k h1, F_X12_isWrong h1]) <;> first | done | rfl)
set_option maxHeartbeats 4000000 in
set_option maxRecDepth 100000 in
theorem c_X12_epoch {G : vG} (hG : G.1.stackTraces = false) {A : vN → Nat} {g : vS} {r : vH} (x : Int32) (hu0 : 0 ≤ (g 2 0 0).toInt) (hu : (g 2 0 0).toInt ≤ 6) (hg0 : 0 ≤ (g 3 0 0).toInt) (hg : (g 3 0 0).toInt ≤ 5) (hf0 : 0 ≤ (g 4 0 0).toInt) (hf : (g 4 0 0).toInt ≤ 20) : vCt G yX12_epoch cX12_epoch 2 (some .int) 2 [.ref (A (40, 0)), .int (x)] A (wm g r) (fun v A2 h2 => v = some (.int (V_X12_epoch g x)) ∧ A2 = A ∧ h2 = wm (S_X12_epoch g x) r) (vNoX) 0 0 := by
  refine v_of hG (by decide +kernel) (Nat.le_of_ble_eq_true rfl) (lv := [(0, .ref (A (40, 0))), (1, .int (x))]) rfl (fun X C hnx => ?_)
  have C : vC G X cX12_epoch 2 RX12 (some .int) "epoch" 2 0 0 := C
  refine v_aload_n (pc := 0) C dX12_epoch_0 0 rfl rfl ?_
  refine v_aload_n (pc := 1) C dX12_epoch_1 0 rfl rfl ?_
  refine v_iload_n (pc := 2) C dX12_epoch_2 1 rfl rfl ?_
  refine v_callV (pc := 3) C (40, 0) ck_40 rfl (c_X12_isGroup hG (x) ) 1 wd_1547 wd_68 wd_1544 wd_1546 wd_37 (by decide +kernel) (by decide) (by decide) rfl ([.ref (A (40, 0))]) rfl (Nat.le_of_ble_eq_true rfl) (by decide) dX12_epoch_3 (fun _ _ _ q => q.elim) (fun v9 A9 h9 hR9 => ?_)
  obtain ⟨rfl, hA9, rfl⟩ := hR9
  obtain rfl := hA9.symm
  refine v_st (k2 := 0) (n2 := 0) (st2 := [.int ((V_X12_isGroup g (x))), .ref (A (40, 0))]) rfl rfl rfl ?_
  have b_1 := ok_isGroup (g := g) (x := x) hg0
  refine v_if_eq (pc := 6) (tgt := 13) C dX12_epoch_6 (by decide) (fun c_2 => ?_) (fun c_2 => ?_)
  · skip
    refine v_iconst (v := 1) (pc := 13) C dX12_epoch_13 rfl ?_
    refine v_callV (pc := 14) C (40, 0) ck_40 rfl (c_X12_isWrong hG (1) ) 1 wd_1531 wd_68 wd_1528 wd_1530 wd_35 (by decide +kernel) (by decide) (by decide) rfl ([]) rfl (Nat.le_of_ble_eq_true rfl) (by decide) dX12_epoch_14 (fun _ _ _ q => q.elim) (fun v9 A9 h9 hR9 => ?_)
    obtain ⟨rfl, hA9, rfl⟩ := hR9
    obtain rfl := hA9.symm
    refine v_st (k2 := 0) (n2 := 0) (st2 := [.int ((V_X12_isWrong g (1)))]) rfl rfl rfl ?_
    refine v_if_eq (pc := 17) (tgt := 24) C dX12_epoch_17 (by decide) (fun c_3 => ?_) (fun c_3 => ?_)
    · skip
      exact absurd c_3 (fun q9 => ((show ¬ (1 : Int32) = 0 from by decide)) q9)
    · skip
      refine v_iconst (v := 0) (pc := 20) C dX12_epoch_20 rfl ?_
      refine v_goto (tgt := 30) (pc := 21) C dX12_epoch_21 (by decide) ?_
      exact v_iret (pc := 30) C (by decide) (by decide) dX12_epoch_30 ⟨(congrArg (fun q => some (Value.int q)) (by show _ = _; rw [V_X12_epoch, if_pos c_2])), rfl, (congrArg (fun q => wm q r) (by show _ = _; rw [S_X12_epoch, if_pos c_2]))⟩
  · skip
    refine v_iconst (v := 0) (pc := 9) C dX12_epoch_9 rfl ?_
    refine v_goto (tgt := 14) (pc := 10) C dX12_epoch_10 (by decide) ?_
    refine v_callV (pc := 14) C (40, 0) ck_40 rfl (c_X12_isWrong hG (0) ) 1 wd_1531 wd_68 wd_1528 wd_1530 wd_35 (by decide +kernel) (by decide) (by decide) rfl ([]) rfl (Nat.le_of_ble_eq_true rfl) (by decide) dX12_epoch_14 (fun _ _ _ q => q.elim) (fun v9 A9 h9 hR9 => ?_)
    obtain ⟨rfl, hA9, rfl⟩ := hR9
    obtain rfl := hA9.symm
    refine v_st (k2 := 0) (n2 := 0) (st2 := [.int ((V_X12_isWrong g (0)))]) rfl rfl rfl ?_
    refine v_if_eq (pc := 17) (tgt := 24) C dX12_epoch_17 (by decide) (fun c_4 => ?_) (fun c_4 => ?_)
    · skip
      refine v_aload_n (pc := 24) C dX12_epoch_24 0 rfl rfl ?_
      refine v_get (pc := 25) C (40, 0) (v := .ref (A (50, 0))) ck_40 rfl 10 (by decide) inX12 wd_1398 rfl rfl dX12_epoch_25 ?_
      refine v_iload_n (pc := 28) C dX12_epoch_28 1 rfl rfl ?_
      refine v_iald (pc := 29) C (50, 0) (v := (g 50 (x).toNatClampNeg 0)) ck_50 (by (try simp only [Int32.le_iff_toInt_le, Int32.lt_iff_toInt_lt, ← Int32.toInt_inj, vp_in_iff, Int32.reduceToInt] at c_2 c_4 b_1 hu hg hf ⊢) <;> omega) (F_X12_isWrong (by decide)) dX12_epoch_29 ?_
      exact v_iret (pc := 30) C (by decide) (by decide) dX12_epoch_30 ⟨(congrArg (fun q => some (Value.int q)) (by show _ = _; rw [V_X12_epoch, if_neg c_2])), rfl, (congrArg (fun q => wm q r) (by show _ = _; rw [S_X12_epoch, if_neg c_2]))⟩
    · skip
      exact absurd c_4 (fun q9 => q9 ((show (0 : Int32) = 0 from rfl)))
def V_X12_mark (g : vS) (x : Int32) : Int32 := (if (V_X12_isFile g (x)) = 0 then 0 else (g 57 (x).toNatClampNeg 0))
def S_X12_mark (g : vS) (x : Int32) : vS := (if (V_X12_isFile g (x)) = 0 then (S_X12_isWrong g (1)) else (S_X12_isWrong g (0)))
theorem F_X12_mark {g : vS} {x : Int32} {c i j : Nat} (h1 : c ≠ 1) : S_X12_mark g x c i j = g c i j := by
  unfold S_X12_mark
  (repeat' split) <;> first | rfl | ((simp only [s3_k h1, F_X12_isWrong h1]) <;> first | done | rfl)
set_option maxHeartbeats 4000000 in
set_option maxRecDepth 100000 in
theorem c_X12_mark {G : vG} (hG : G.1.stackTraces = false) {A : vN → Nat} {g : vS} {r : vH} (x : Int32) (hu0 : 0 ≤ (g 2 0 0).toInt) (hu : (g 2 0 0).toInt ≤ 6) (hg0 : 0 ≤ (g 3 0 0).toInt) (hg : (g 3 0 0).toInt ≤ 5) (hf0 : 0 ≤ (g 4 0 0).toInt) (hf : (g 4 0 0).toInt ≤ 20) : vCt G yX12_mark cX12_mark 2 (some .int) 2 [.ref (A (40, 0)), .int (x)] A (wm g r) (fun v A2 h2 => v = some (.int (V_X12_mark g x)) ∧ A2 = A ∧ h2 = wm (S_X12_mark g x) r) (vNoX) 0 0 := by
  refine v_of hG (by decide +kernel) (Nat.le_of_ble_eq_true rfl) (lv := [(0, .ref (A (40, 0))), (1, .int (x))]) rfl (fun X C hnx => ?_)
  have C : vC G X cX12_mark 2 RX12 (some .int) "mark" 2 0 0 := C
  refine v_aload_n (pc := 0) C dX12_mark_0 0 rfl rfl ?_
  refine v_aload_n (pc := 1) C dX12_mark_1 0 rfl rfl ?_
  refine v_iload_n (pc := 2) C dX12_mark_2 1 rfl rfl ?_
  refine v_callV (pc := 3) C (40, 0) ck_40 rfl (c_X12_isFile hG (x) ) 1 wd_1613 wd_68 wd_1610 wd_1612 wd_45 (by decide +kernel) (by decide) (by decide) rfl ([.ref (A (40, 0))]) rfl (Nat.le_of_ble_eq_true rfl) (by decide) dX12_mark_3 (fun _ _ _ q => q.elim) (fun v9 A9 h9 hR9 => ?_)
  obtain ⟨rfl, hA9, rfl⟩ := hR9
  obtain rfl := hA9.symm
  refine v_st (k2 := 0) (n2 := 0) (st2 := [.int ((V_X12_isFile g (x))), .ref (A (40, 0))]) rfl rfl rfl ?_
  have b_1 := ok_isFile (g := g) (x := x) hf0
  refine v_if_eq (pc := 6) (tgt := 13) C dX12_mark_6 (by decide) (fun c_2 => ?_) (fun c_2 => ?_)
  · skip
    refine v_iconst (v := 1) (pc := 13) C dX12_mark_13 rfl ?_
    refine v_callV (pc := 14) C (40, 0) ck_40 rfl (c_X12_isWrong hG (1) ) 1 wd_1531 wd_68 wd_1528 wd_1530 wd_35 (by decide +kernel) (by decide) (by decide) rfl ([]) rfl (Nat.le_of_ble_eq_true rfl) (by decide) dX12_mark_14 (fun _ _ _ q => q.elim) (fun v9 A9 h9 hR9 => ?_)
    obtain ⟨rfl, hA9, rfl⟩ := hR9
    obtain rfl := hA9.symm
    refine v_st (k2 := 0) (n2 := 0) (st2 := [.int ((V_X12_isWrong g (1)))]) rfl rfl rfl ?_
    refine v_if_eq (pc := 17) (tgt := 24) C dX12_mark_17 (by decide) (fun c_3 => ?_) (fun c_3 => ?_)
    · skip
      exact absurd c_3 (fun q9 => ((show ¬ (1 : Int32) = 0 from by decide)) q9)
    · skip
      refine v_iconst (v := 0) (pc := 20) C dX12_mark_20 rfl ?_
      refine v_goto (tgt := 30) (pc := 21) C dX12_mark_21 (by decide) ?_
      exact v_iret (pc := 30) C (by decide) (by decide) dX12_mark_30 ⟨(congrArg (fun q => some (Value.int q)) (by show _ = _; rw [V_X12_mark, if_pos c_2])), rfl, (congrArg (fun q => wm q r) (by show _ = _; rw [S_X12_mark, if_pos c_2]))⟩
  · skip
    refine v_iconst (v := 0) (pc := 9) C dX12_mark_9 rfl ?_
    refine v_goto (tgt := 14) (pc := 10) C dX12_mark_10 (by decide) ?_
    refine v_callV (pc := 14) C (40, 0) ck_40 rfl (c_X12_isWrong hG (0) ) 1 wd_1531 wd_68 wd_1528 wd_1530 wd_35 (by decide +kernel) (by decide) (by decide) rfl ([]) rfl (Nat.le_of_ble_eq_true rfl) (by decide) dX12_mark_14 (fun _ _ _ q => q.elim) (fun v9 A9 h9 hR9 => ?_)
    obtain ⟨rfl, hA9, rfl⟩ := hR9
    obtain rfl := hA9.symm
    refine v_st (k2 := 0) (n2 := 0) (st2 := [.int ((V_X12_isWrong g (0)))]) rfl rfl rfl ?_
    refine v_if_eq (pc := 17) (tgt := 24) C dX12_mark_17 (by decide) (fun c_4 => ?_) (fun c_4 => ?_)
    · skip
      refine v_aload_n (pc := 24) C dX12_mark_24 0 rfl rfl ?_
      refine v_get (pc := 25) C (40, 0) (v := .ref (A (57, 0))) ck_40 rfl 17 (by decide) inX12 wd_1405 rfl rfl dX12_mark_25 ?_
      refine v_iload_n (pc := 28) C dX12_mark_28 1 rfl rfl ?_
      refine v_iald (pc := 29) C (57, 0) (v := (g 57 (x).toNatClampNeg 0)) ck_57 (by (try simp only [Int32.le_iff_toInt_le, Int32.lt_iff_toInt_lt, ← Int32.toInt_inj, vp_in_iff, Int32.reduceToInt] at c_2 c_4 b_1 hu hg hf ⊢) <;> omega) (F_X12_isWrong (by decide)) dX12_mark_29 ?_
      exact v_iret (pc := 30) C (by decide) (by decide) dX12_mark_30 ⟨(congrArg (fun q => some (Value.int q)) (by show _ = _; rw [V_X12_mark, if_neg c_2])), rfl, (congrArg (fun q => wm q r) (by show _ = _; rw [S_X12_mark, if_neg c_2]))⟩
    · skip
      exact absurd c_4 (fun q9 => q9 ((show (0 : Int32) = 0 from rfl)))
def V_X12_head (g : vS) (x : Int32) : Int32 := (if (V_X12_isUser g (x)) = 0 then 0 else (g 42 (x).toNatClampNeg 0))
def S_X12_head (g : vS) (x : Int32) : vS := (if (V_X12_isUser g (x)) = 0 then (S_X12_isWrong g (1)) else (S_X12_isWrong g (0)))
theorem F_X12_head {g : vS} {x : Int32} {c i j : Nat} (h1 : c ≠ 1) : S_X12_head g x c i j = g c i j := by
  unfold S_X12_head
  (repeat' split) <;> first | rfl | ((simp only [s3_k h1, F_X12_isWrong h1]) <;> first | done | rfl)
set_option maxHeartbeats 4000000 in
set_option maxRecDepth 100000 in
theorem c_X12_head {G : vG} (hG : G.1.stackTraces = false) {A : vN → Nat} {g : vS} {r : vH} (x : Int32) (hu0 : 0 ≤ (g 2 0 0).toInt) (hu : (g 2 0 0).toInt ≤ 6) (hg0 : 0 ≤ (g 3 0 0).toInt) (hg : (g 3 0 0).toInt ≤ 5) (hf0 : 0 ≤ (g 4 0 0).toInt) (hf : (g 4 0 0).toInt ≤ 20) : vCt G yX12_head cX12_head 2 (some .int) 2 [.ref (A (40, 0)), .int (x)] A (wm g r) (fun v A2 h2 => v = some (.int (V_X12_head g x)) ∧ A2 = A ∧ h2 = wm (S_X12_head g x) r) (vNoX) 0 0 := by
  refine v_of hG (by decide +kernel) (Nat.le_of_ble_eq_true rfl) (lv := [(0, .ref (A (40, 0))), (1, .int (x))]) rfl (fun X C hnx => ?_)
  have C : vC G X cX12_head 2 RX12 (some .int) "head" 2 0 0 := C
  refine v_aload_n (pc := 0) C dX12_head_0 0 rfl rfl ?_
  refine v_aload_n (pc := 1) C dX12_head_1 0 rfl rfl ?_
  refine v_iload_n (pc := 2) C dX12_head_2 1 rfl rfl ?_
  refine v_callV (pc := 3) C (40, 0) ck_40 rfl (c_X12_isUser hG (x) ) 1 wd_1539 wd_68 wd_1536 wd_1538 wd_36 (by decide +kernel) (by decide) (by decide) rfl ([.ref (A (40, 0))]) rfl (Nat.le_of_ble_eq_true rfl) (by decide) dX12_head_3 (fun _ _ _ q => q.elim) (fun v9 A9 h9 hR9 => ?_)
  obtain ⟨rfl, hA9, rfl⟩ := hR9
  obtain rfl := hA9.symm
  refine v_st (k2 := 0) (n2 := 0) (st2 := [.int ((V_X12_isUser g (x))), .ref (A (40, 0))]) rfl rfl rfl ?_
  have b_1 := ok_isUser (g := g) (x := x) hu0
  refine v_if_eq (pc := 6) (tgt := 13) C dX12_head_6 (by decide) (fun c_2 => ?_) (fun c_2 => ?_)
  · skip
    refine v_iconst (v := 1) (pc := 13) C dX12_head_13 rfl ?_
    refine v_callV (pc := 14) C (40, 0) ck_40 rfl (c_X12_isWrong hG (1) ) 1 wd_1531 wd_68 wd_1528 wd_1530 wd_35 (by decide +kernel) (by decide) (by decide) rfl ([]) rfl (Nat.le_of_ble_eq_true rfl) (by decide) dX12_head_14 (fun _ _ _ q => q.elim) (fun v9 A9 h9 hR9 => ?_)
    obtain ⟨rfl, hA9, rfl⟩ := hR9
    obtain rfl := hA9.symm
    refine v_st (k2 := 0) (n2 := 0) (st2 := [.int ((V_X12_isWrong g (1)))]) rfl rfl rfl ?_
    refine v_if_eq (pc := 17) (tgt := 24) C dX12_head_17 (by decide) (fun c_3 => ?_) (fun c_3 => ?_)
    · skip
      exact absurd c_3 (fun q9 => ((show ¬ (1 : Int32) = 0 from by decide)) q9)
    · skip
      refine v_iconst (v := 0) (pc := 20) C dX12_head_20 rfl ?_
      refine v_goto (tgt := 30) (pc := 21) C dX12_head_21 (by decide) ?_
      exact v_iret (pc := 30) C (by decide) (by decide) dX12_head_30 ⟨(congrArg (fun q => some (Value.int q)) (by show _ = _; rw [V_X12_head, if_pos c_2])), rfl, (congrArg (fun q => wm q r) (by show _ = _; rw [S_X12_head, if_pos c_2]))⟩
  · skip
    refine v_iconst (v := 0) (pc := 9) C dX12_head_9 rfl ?_
    refine v_goto (tgt := 14) (pc := 10) C dX12_head_10 (by decide) ?_
    refine v_callV (pc := 14) C (40, 0) ck_40 rfl (c_X12_isWrong hG (0) ) 1 wd_1531 wd_68 wd_1528 wd_1530 wd_35 (by decide +kernel) (by decide) (by decide) rfl ([]) rfl (Nat.le_of_ble_eq_true rfl) (by decide) dX12_head_14 (fun _ _ _ q => q.elim) (fun v9 A9 h9 hR9 => ?_)
    obtain ⟨rfl, hA9, rfl⟩ := hR9
    obtain rfl := hA9.symm
    refine v_st (k2 := 0) (n2 := 0) (st2 := [.int ((V_X12_isWrong g (0)))]) rfl rfl rfl ?_
    refine v_if_eq (pc := 17) (tgt := 24) C dX12_head_17 (by decide) (fun c_4 => ?_) (fun c_4 => ?_)
    · skip
      refine v_aload_n (pc := 24) C dX12_head_24 0 rfl rfl ?_
      refine v_get (pc := 25) C (40, 0) (v := .ref (A (42, 0))) ck_40 rfl 2 (by decide) inX12 wd_1390 rfl rfl dX12_head_25 ?_
      refine v_iload_n (pc := 28) C dX12_head_28 1 rfl rfl ?_
      refine v_iald (pc := 29) C (42, 0) (v := (g 42 (x).toNatClampNeg 0)) ck_42 (by (try simp only [Int32.le_iff_toInt_le, Int32.lt_iff_toInt_lt, ← Int32.toInt_inj, vp_in_iff, Int32.reduceToInt] at c_2 c_4 b_1 hu hg hf ⊢) <;> omega) (F_X12_isWrong (by decide)) dX12_head_29 ?_
      exact v_iret (pc := 30) C (by decide) (by decide) dX12_head_30 ⟨(congrArg (fun q => some (Value.int q)) (by show _ = _; rw [V_X12_head, if_neg c_2])), rfl, (congrArg (fun q => wm q r) (by show _ = _; rw [S_X12_head, if_neg c_2]))⟩
    · skip
      exact absurd c_4 (fun q9 => q9 ((show (0 : Int32) = 0 from rfl)))
def V_X12_alarms (g : vS) (x : Int32) : Int32 := (if (V_X12_isUser g (x)) = 0 then 0 else (g 44 (x).toNatClampNeg 0))
def S_X12_alarms (g : vS) (x : Int32) : vS := (if (V_X12_isUser g (x)) = 0 then (S_X12_isWrong g (1)) else (S_X12_isWrong g (0)))
theorem F_X12_alarms {g : vS} {x : Int32} {c i j : Nat} (h1 : c ≠ 1) : S_X12_alarms g x c i j = g c i j := by
  unfold S_X12_alarms
  (repeat' split) <;> first | rfl | ((simp only [s3_k h1, F_X12_isWrong h1]) <;> first | done | rfl)
set_option maxHeartbeats 4000000 in
set_option maxRecDepth 100000 in
theorem c_X12_alarms {G : vG} (hG : G.1.stackTraces = false) {A : vN → Nat} {g : vS} {r : vH} (x : Int32) (hu0 : 0 ≤ (g 2 0 0).toInt) (hu : (g 2 0 0).toInt ≤ 6) (hg0 : 0 ≤ (g 3 0 0).toInt) (hg : (g 3 0 0).toInt ≤ 5) (hf0 : 0 ≤ (g 4 0 0).toInt) (hf : (g 4 0 0).toInt ≤ 20) : vCt G yX12_alarms cX12_alarms 2 (some .int) 2 [.ref (A (40, 0)), .int (x)] A (wm g r) (fun v A2 h2 => v = some (.int (V_X12_alarms g x)) ∧ A2 = A ∧ h2 = wm (S_X12_alarms g x) r) (vNoX) 0 0 := by
  refine v_of hG (by decide +kernel) (Nat.le_of_ble_eq_true rfl) (lv := [(0, .ref (A (40, 0))), (1, .int (x))]) rfl (fun X C hnx => ?_)
  have C : vC G X cX12_alarms 2 RX12 (some .int) "alarms" 2 0 0 := C
  refine v_aload_n (pc := 0) C dX12_alarms_0 0 rfl rfl ?_
  refine v_aload_n (pc := 1) C dX12_alarms_1 0 rfl rfl ?_
  refine v_iload_n (pc := 2) C dX12_alarms_2 1 rfl rfl ?_
  refine v_callV (pc := 3) C (40, 0) ck_40 rfl (c_X12_isUser hG (x) ) 1 wd_1539 wd_68 wd_1536 wd_1538 wd_36 (by decide +kernel) (by decide) (by decide) rfl ([.ref (A (40, 0))]) rfl (Nat.le_of_ble_eq_true rfl) (by decide) dX12_alarms_3 (fun _ _ _ q => q.elim) (fun v9 A9 h9 hR9 => ?_)
  obtain ⟨rfl, hA9, rfl⟩ := hR9
  obtain rfl := hA9.symm
  refine v_st (k2 := 0) (n2 := 0) (st2 := [.int ((V_X12_isUser g (x))), .ref (A (40, 0))]) rfl rfl rfl ?_
  have b_1 := ok_isUser (g := g) (x := x) hu0
  refine v_if_eq (pc := 6) (tgt := 13) C dX12_alarms_6 (by decide) (fun c_2 => ?_) (fun c_2 => ?_)
  · skip
    refine v_iconst (v := 1) (pc := 13) C dX12_alarms_13 rfl ?_
    refine v_callV (pc := 14) C (40, 0) ck_40 rfl (c_X12_isWrong hG (1) ) 1 wd_1531 wd_68 wd_1528 wd_1530 wd_35 (by decide +kernel) (by decide) (by decide) rfl ([]) rfl (Nat.le_of_ble_eq_true rfl) (by decide) dX12_alarms_14 (fun _ _ _ q => q.elim) (fun v9 A9 h9 hR9 => ?_)
    obtain ⟨rfl, hA9, rfl⟩ := hR9
    obtain rfl := hA9.symm
    refine v_st (k2 := 0) (n2 := 0) (st2 := [.int ((V_X12_isWrong g (1)))]) rfl rfl rfl ?_
    refine v_if_eq (pc := 17) (tgt := 24) C dX12_alarms_17 (by decide) (fun c_3 => ?_) (fun c_3 => ?_)
    · skip
      exact absurd c_3 (fun q9 => ((show ¬ (1 : Int32) = 0 from by decide)) q9)
    · skip
      refine v_iconst (v := 0) (pc := 20) C dX12_alarms_20 rfl ?_
      refine v_goto (tgt := 30) (pc := 21) C dX12_alarms_21 (by decide) ?_
      exact v_iret (pc := 30) C (by decide) (by decide) dX12_alarms_30 ⟨(congrArg (fun q => some (Value.int q)) (by show _ = _; rw [V_X12_alarms, if_pos c_2])), rfl, (congrArg (fun q => wm q r) (by show _ = _; rw [S_X12_alarms, if_pos c_2]))⟩
  · skip
    refine v_iconst (v := 0) (pc := 9) C dX12_alarms_9 rfl ?_
    refine v_goto (tgt := 14) (pc := 10) C dX12_alarms_10 (by decide) ?_
    refine v_callV (pc := 14) C (40, 0) ck_40 rfl (c_X12_isWrong hG (0) ) 1 wd_1531 wd_68 wd_1528 wd_1530 wd_35 (by decide +kernel) (by decide) (by decide) rfl ([]) rfl (Nat.le_of_ble_eq_true rfl) (by decide) dX12_alarms_14 (fun _ _ _ q => q.elim) (fun v9 A9 h9 hR9 => ?_)
    obtain ⟨rfl, hA9, rfl⟩ := hR9
    obtain rfl := hA9.symm
    refine v_st (k2 := 0) (n2 := 0) (st2 := [.int ((V_X12_isWrong g (0)))]) rfl rfl rfl ?_
    refine v_if_eq (pc := 17) (tgt := 24) C dX12_alarms_17 (by decide) (fun c_4 => ?_) (fun c_4 => ?_)
    · skip
      refine v_aload_n (pc := 24) C dX12_alarms_24 0 rfl rfl ?_
      refine v_get (pc := 25) C (40, 0) (v := .ref (A (44, 0))) ck_40 rfl 4 (by decide) inX12 wd_1392 rfl rfl dX12_alarms_25 ?_
      refine v_iload_n (pc := 28) C dX12_alarms_28 1 rfl rfl ?_
      refine v_iald (pc := 29) C (44, 0) (v := (g 44 (x).toNatClampNeg 0)) ck_44 (by (try simp only [Int32.le_iff_toInt_le, Int32.lt_iff_toInt_lt, ← Int32.toInt_inj, vp_in_iff, Int32.reduceToInt] at c_2 c_4 b_1 hu hg hf ⊢) <;> omega) (F_X12_isWrong (by decide)) dX12_alarms_29 ?_
      exact v_iret (pc := 30) C (by decide) (by decide) dX12_alarms_30 ⟨(congrArg (fun q => some (Value.int q)) (by show _ = _; rw [V_X12_alarms, if_neg c_2])), rfl, (congrArg (fun q => wm q r) (by show _ = _; rw [S_X12_alarms, if_neg c_2]))⟩
    · skip
      exact absurd c_4 (fun q9 => q9 ((show (0 : Int32) = 0 from rfl)))
def V_X12_isMember (g : vS) (x : Int32) (u : Int32) : Int32 := (if (V_X12_isGroup g (x)) = 0 then 0 else (if (V_X12_isUser g (u)) = 0 then 0 else (if (g 52 (x).toNatClampNeg (u).toNatClampNeg) = 0 then 0 else 1)))
theorem B_X12_isMember {g : vS} {x : Int32} {u : Int32} : V_X12_isMember g x u = 0 ∨ V_X12_isMember g x u = 1 := by
  unfold V_X12_isMember
  (repeat' split) <;> first | exact Or.inl rfl | exact Or.inr rfl
def S_X12_isMember (g : vS) (x : Int32) (u : Int32) : vS := (if (V_X12_isGroup g (x)) = 0 then (S_X12_isWrong g (1)) else (if (V_X12_isUser g (u)) = 0 then (S_X12_isWrong g (1)) else (S_X12_isWrong g (0))))
theorem F_X12_isMember {g : vS} {x : Int32} {u : Int32} {c i j : Nat} (h1 : c ≠ 1) : S_X12_isMember g x u c i j = g c i j := by
  unfold S_X12_isMember
  (repeat' split) <;> first | rfl | ((simp only [s3_k h1, F_X12_isWrong h1]) <;> first | done | rfl)
set_option maxHeartbeats 4000000 in
set_option maxRecDepth 100000 in
theorem c_X12_isMember {G : vG} (hG : G.1.stackTraces = false) {A : vN → Nat} {g : vS} {r : vH} (x : Int32) (u : Int32) (hu0 : 0 ≤ (g 2 0 0).toInt) (hu : (g 2 0 0).toInt ≤ 6) (hg0 : 0 ≤ (g 3 0 0).toInt) (hg : (g 3 0 0).toInt ≤ 5) (hf0 : 0 ≤ (g 4 0 0).toInt) (hf : (g 4 0 0).toInt ≤ 20) : vCt G yX12_isMember cX12_isMember 3 (some .boolean) 2 [.ref (A (40, 0)), .int (x), .int (u)] A (wm g r) (fun v A2 h2 => v = some (.int (V_X12_isMember g x u)) ∧ A2 = A ∧ h2 = wm (S_X12_isMember g x u) r) (vNoX) 0 0 := by
  refine v_of hG (by decide +kernel) (Nat.le_of_ble_eq_true rfl) (lv := [(0, .ref (A (40, 0))), (1, .int (x)), (2, .int (u))]) rfl (fun X C hnx => ?_)
  have C : vC G X cX12_isMember 3 RX12 (some .boolean) "isMember" 2 0 0 := C
  refine v_aload_n (pc := 0) C dX12_isMember_0 0 rfl rfl ?_
  refine v_aload_n (pc := 1) C dX12_isMember_1 0 rfl rfl ?_
  refine v_iload_n (pc := 2) C dX12_isMember_2 1 rfl rfl ?_
  refine v_callV (pc := 3) C (40, 0) ck_40 rfl (c_X12_isGroup hG (x) ) 1 wd_1547 wd_68 wd_1544 wd_1546 wd_37 (by decide +kernel) (by decide) (by decide) rfl ([.ref (A (40, 0))]) rfl (Nat.le_of_ble_eq_true rfl) (by decide) dX12_isMember_3 (fun _ _ _ q => q.elim) (fun v9 A9 h9 hR9 => ?_)
  obtain ⟨rfl, hA9, rfl⟩ := hR9
  obtain rfl := hA9.symm
  refine v_st (k2 := 0) (n2 := 0) (st2 := [.int ((V_X12_isGroup g (x))), .ref (A (40, 0))]) rfl rfl rfl ?_
  have b_1 := ok_isGroup (g := g) (x := x) hg0
  refine v_if_eq (pc := 6) (tgt := 21) C dX12_isMember_6 (by decide) (fun c_2 => ?_) (fun c_2 => ?_)
  · skip
    refine v_iconst (v := 1) (pc := 21) C dX12_isMember_21 rfl ?_
    refine v_callV (pc := 22) C (40, 0) ck_40 rfl (c_X12_isWrong hG (1) ) 1 wd_1531 wd_68 wd_1528 wd_1530 wd_35 (by decide +kernel) (by decide) (by decide) rfl ([]) rfl (Nat.le_of_ble_eq_true rfl) (by decide) dX12_isMember_22 (fun _ _ _ q => q.elim) (fun v9 A9 h9 hR9 => ?_)
    obtain ⟨rfl, hA9, rfl⟩ := hR9
    obtain rfl := hA9.symm
    refine v_st (k2 := 0) (n2 := 0) (st2 := [.int ((V_X12_isWrong g (1)))]) rfl rfl rfl ?_
    refine v_if_ne (pc := 25) (tgt := 43) C dX12_isMember_25 (by decide) (fun c_3 => ?_) (fun c_3 => ?_)
    · skip
      refine v_iconst (v := 0) (pc := 43) C dX12_isMember_43 rfl ?_
      exact v_zret (pc := 44) C rfl (by decide) (by decide) dX12_isMember_44 ⟨(congrArg (fun q => some (Value.int q)) (by show _ = _; rw [V_X12_isMember, if_pos c_2])), rfl, (congrArg (fun q => wm q r) (by show _ = _; rw [S_X12_isMember, if_pos c_2]))⟩
    · skip
      exact absurd c_3 (fun q9 => ((show ¬ (1 : Int32) = 0 from by decide)) q9)
  · skip
    refine v_aload_n (pc := 9) C dX12_isMember_9 0 rfl rfl ?_
    refine v_iload_n (pc := 10) C dX12_isMember_10 2 rfl rfl ?_
    refine v_callV (pc := 11) C (40, 0) ck_40 rfl (c_X12_isUser hG (u) ) 1 wd_1539 wd_68 wd_1536 wd_1538 wd_36 (by decide +kernel) (by decide) (by decide) rfl ([.ref (A (40, 0))]) rfl (Nat.le_of_ble_eq_true rfl) (by decide) dX12_isMember_11 (fun _ _ _ q => q.elim) (fun v9 A9 h9 hR9 => ?_)
    obtain ⟨rfl, hA9, rfl⟩ := hR9
    obtain rfl := hA9.symm
    refine v_st (k2 := 0) (n2 := 0) (st2 := [.int ((V_X12_isUser g (u))), .ref (A (40, 0))]) rfl rfl rfl ?_
    have b_4 := ok_isUser (g := g) (x := u) hu0
    refine v_if_eq (pc := 14) (tgt := 21) C dX12_isMember_14 (by decide) (fun c_5 => ?_) (fun c_5 => ?_)
    · skip
      refine v_iconst (v := 1) (pc := 21) C dX12_isMember_21 rfl ?_
      refine v_callV (pc := 22) C (40, 0) ck_40 rfl (c_X12_isWrong hG (1) ) 1 wd_1531 wd_68 wd_1528 wd_1530 wd_35 (by decide +kernel) (by decide) (by decide) rfl ([]) rfl (Nat.le_of_ble_eq_true rfl) (by decide) dX12_isMember_22 (fun _ _ _ q => q.elim) (fun v9 A9 h9 hR9 => ?_)
      obtain ⟨rfl, hA9, rfl⟩ := hR9
      obtain rfl := hA9.symm
      refine v_st (k2 := 0) (n2 := 0) (st2 := [.int ((V_X12_isWrong g (1)))]) rfl rfl rfl ?_
      refine v_if_ne (pc := 25) (tgt := 43) C dX12_isMember_25 (by decide) (fun c_6 => ?_) (fun c_6 => ?_)
      · skip
        refine v_iconst (v := 0) (pc := 43) C dX12_isMember_43 rfl ?_
        exact v_zret (pc := 44) C rfl (by decide) (by decide) dX12_isMember_44 ⟨(congrArg (fun q => some (Value.int q)) (by show _ = _; rw [V_X12_isMember, if_neg c_2, if_pos c_5])), rfl, (congrArg (fun q => wm q r) (by show _ = _; rw [S_X12_isMember, if_neg c_2, if_pos c_5]))⟩
      · skip
        exact absurd c_6 (fun q9 => ((show ¬ (1 : Int32) = 0 from by decide)) q9)
    · skip
      refine v_iconst (v := 0) (pc := 17) C dX12_isMember_17 rfl ?_
      refine v_goto (tgt := 22) (pc := 18) C dX12_isMember_18 (by decide) ?_
      refine v_callV (pc := 22) C (40, 0) ck_40 rfl (c_X12_isWrong hG (0) ) 1 wd_1531 wd_68 wd_1528 wd_1530 wd_35 (by decide +kernel) (by decide) (by decide) rfl ([]) rfl (Nat.le_of_ble_eq_true rfl) (by decide) dX12_isMember_22 (fun _ _ _ q => q.elim) (fun v9 A9 h9 hR9 => ?_)
      obtain ⟨rfl, hA9, rfl⟩ := hR9
      obtain rfl := hA9.symm
      refine v_st (k2 := 0) (n2 := 0) (st2 := [.int ((V_X12_isWrong g (0)))]) rfl rfl rfl ?_
      refine v_if_ne (pc := 25) (tgt := 43) C dX12_isMember_25 (by decide) (fun c_7 => ?_) (fun c_7 => ?_)
      · skip
        exact absurd c_7 (fun q9 => q9 ((show (0 : Int32) = 0 from rfl)))
      · skip
        refine v_aload_n (pc := 28) C dX12_isMember_28 0 rfl rfl ?_
        refine v_get (pc := 29) C (40, 0) (v := .ref (A (51, 0))) ck_40 rfl 11 (by decide) inX12 wd_1399 rfl rfl dX12_isMember_29 ?_
        refine v_iload_n (pc := 32) C dX12_isMember_32 1 rfl rfl ?_
        refine v_aald (pc := 33) C (51, 0) ck_51 rfl rfl (by (try simp only [Int32.le_iff_toInt_le, Int32.lt_iff_toInt_lt, ← Int32.toInt_inj, vp_in_iff, Int32.reduceToInt] at c_2 c_5 c_7 b_1 b_4 hu hg hf ⊢) <;> omega) (52, (x).toNatClampNeg) rfl dX12_isMember_33 ?_
        refine v_iload_n (pc := 34) C dX12_isMember_34 2 rfl rfl ?_
        refine v_zald (pc := 35) C (52, (x).toNatClampNeg) (v := (g 52 (x).toNatClampNeg (u).toNatClampNeg)) (ck_52 (g := (S_X12_isWrong g (0))) (tn_lt (by (try simp only [Int32.le_iff_toInt_le, Int32.lt_iff_toInt_lt, ← Int32.toInt_inj, Int32.reduceToInt] at c_2 c_5 c_7 b_1 b_4 hu hg hf ⊢); omega))) (by (try simp only [Int32.le_iff_toInt_le, Int32.lt_iff_toInt_lt, ← Int32.toInt_inj, vp_in_iff, Int32.reduceToInt] at c_2 c_5 c_7 b_1 b_4 hu hg hf ⊢) <;> omega) (F_X12_isWrong (by decide)) dX12_isMember_35 ?_
        refine v_if_eq (pc := 36) (tgt := 43) C dX12_isMember_36 (by decide) (fun c_8 => ?_) (fun c_8 => ?_)
        · skip
          refine v_iconst (v := 0) (pc := 43) C dX12_isMember_43 rfl ?_
          exact v_zret (pc := 44) C rfl (by decide) (by decide) dX12_isMember_44 ⟨(congrArg (fun q => some (Value.int q)) (by show _ = _; rw [V_X12_isMember, if_neg c_2, if_neg c_5, if_pos c_8])), rfl, (congrArg (fun q => wm q r) (by show _ = _; rw [S_X12_isMember, if_neg c_2, if_neg c_5]))⟩
        · skip
          refine v_iconst (v := 1) (pc := 39) C dX12_isMember_39 rfl ?_
          refine v_goto (tgt := 44) (pc := 40) C dX12_isMember_40 (by decide) ?_
          exact v_zret (pc := 44) C rfl (by decide) (by decide) dX12_isMember_44 ⟨(congrArg (fun q => some (Value.int q)) (by show _ = _; rw [V_X12_isMember, if_neg c_2, if_neg c_5, if_neg c_8])), rfl, (congrArg (fun q => wm q r) (by show _ = _; rw [S_X12_isMember, if_neg c_2, if_neg c_5]))⟩
def V_X12_leaves (g : vS)  : Int32 := (g 11 0 0)
def S_X12_leaves (g : vS)  : vS := (s3 g 1 0 0 (0))
theorem F_X12_leaves {g : vS}  {c i j : Nat} (h1 : c ≠ 1) : S_X12_leaves g c i j = g c i j := by
  unfold S_X12_leaves
  (repeat' split) <;> first | rfl | ((simp only [s3_k h1]) <;> first | done | rfl)
set_option maxHeartbeats 4000000 in
set_option maxRecDepth 100000 in
theorem c_X12_leaves {G : vG} (hG : G.1.stackTraces = false) {A : vN → Nat} {g : vS} {r : vH}   : vCt G yX12_leaves cX12_leaves 1 (some .int) 0 [.ref (A (40, 0))] A (wm g r) (fun v A2 h2 => v = some (.int (V_X12_leaves g)) ∧ A2 = A ∧ h2 = wm (S_X12_leaves g) r) (vNoX) 0 0 := by
  refine v_of hG (by decide +kernel) (Nat.le_of_ble_eq_true rfl) (lv := [(0, .ref (A (40, 0)))]) rfl (fun X C hnx => ?_)
  have C : vC G X cX12_leaves 1 RX12 (some .int) "leaves" 0 0 0 := C
  refine v_aload_n (pc := 0) C dX12_leaves_0 0 rfl rfl ?_
  refine v_iconst (v := 0) (pc := 1) C dX12_leaves_1 rfl ?_
  refine v_put (pc := 2) C (40, 0) (v := .int (0)) ck_40 rfl 0 (by decide) inX12 tyX12 tyX12_ok nmX12 wd_1388 rfl (.inl (Value.int (0))) rfl (ty := tyX12 0) (by decide +kernel) rfl rfl (Nat.le_of_ble_eq_true rfl) dX12_leaves_2 ?_
  refine v_h (h2 := (wm (s3 g 1 0 0 (0)) r)) (u_40_0) ?_
  refine v_aload_n (pc := 5) C dX12_leaves_5 0 rfl rfl ?_
  refine v_get (pc := 6) C (40, 0) (v := .int ((g 11 0 0))) ck_40 rfl 36 (by decide) inX12 wd_1424 rfl rfl dX12_leaves_6 ?_
  exact v_iret (pc := 9) C (by decide) (by decide) dX12_leaves_9 ⟨(congrArg (fun q => some (Value.int q)) (by show _ = _; rw [V_X12_leaves])), rfl, (congrArg (fun q => wm q r) (by show _ = _; rw [S_X12_leaves]))⟩
def V_X12_conflicts (g : vS)  : Int32 := (g 12 0 0)
def S_X12_conflicts (g : vS)  : vS := (s3 g 1 0 0 (0))
theorem F_X12_conflicts {g : vS}  {c i j : Nat} (h1 : c ≠ 1) : S_X12_conflicts g c i j = g c i j := by
  unfold S_X12_conflicts
  (repeat' split) <;> first | rfl | ((simp only [s3_k h1]) <;> first | done | rfl)
set_option maxHeartbeats 4000000 in
set_option maxRecDepth 100000 in
theorem c_X12_conflicts {G : vG} (hG : G.1.stackTraces = false) {A : vN → Nat} {g : vS} {r : vH}   : vCt G yX12_conflicts cX12_conflicts 1 (some .int) 0 [.ref (A (40, 0))] A (wm g r) (fun v A2 h2 => v = some (.int (V_X12_conflicts g)) ∧ A2 = A ∧ h2 = wm (S_X12_conflicts g) r) (vNoX) 0 0 := by
  refine v_of hG (by decide +kernel) (Nat.le_of_ble_eq_true rfl) (lv := [(0, .ref (A (40, 0)))]) rfl (fun X C hnx => ?_)
  have C : vC G X cX12_conflicts 1 RX12 (some .int) "conflicts" 0 0 0 := C
  refine v_aload_n (pc := 0) C dX12_conflicts_0 0 rfl rfl ?_
  refine v_iconst (v := 0) (pc := 1) C dX12_conflicts_1 rfl ?_
  refine v_put (pc := 2) C (40, 0) (v := .int (0)) ck_40 rfl 0 (by decide) inX12 tyX12 tyX12_ok nmX12 wd_1388 rfl (.inl (Value.int (0))) rfl (ty := tyX12 0) (by decide +kernel) rfl rfl (Nat.le_of_ble_eq_true rfl) dX12_conflicts_2 ?_
  refine v_h (h2 := (wm (s3 g 1 0 0 (0)) r)) (u_40_0) ?_
  refine v_aload_n (pc := 5) C dX12_conflicts_5 0 rfl rfl ?_
  refine v_get (pc := 6) C (40, 0) (v := .int ((g 12 0 0))) ck_40 rfl 43 (by decide) inX12 wd_1431 rfl rfl dX12_conflicts_6 ?_
  exact v_iret (pc := 9) C (by decide) (by decide) dX12_conflicts_9 ⟨(congrArg (fun q => some (Value.int q)) (by show _ = _; rw [V_X12_conflicts])), rfl, (congrArg (fun q => wm q r) (by show _ = _; rw [S_X12_conflicts]))⟩
def S_X12_adds (g : vS) (x : Int32) : vS := (s3 (s3 g 73 ((g 11 0 0)).toNatClampNeg 0 (x)) 11 0 0 (((g 11 0 0) + 1)))
theorem F_X12_adds {g : vS} {x : Int32} {c i j : Nat} (h11 : c ≠ 11) (h73 : c ≠ 73) : S_X12_adds g x c i j = g c i j := by
  unfold S_X12_adds
  (repeat' split) <;> first | rfl | ((simp only [s3_k h11, s3_k h73]) <;> first | done | rfl)
set_option maxHeartbeats 4000000 in
set_option maxRecDepth 100000 in
theorem c_X12_adds {G : vG} (hG : G.1.stackTraces = false) {A : vN → Nat} {g : vS} {r : vH} (x : Int32) (hu0 : 0 ≤ (g 2 0 0).toInt) (hu : (g 2 0 0).toInt ≤ 6) (hg0 : 0 ≤ (g 3 0 0).toInt) (hg : (g 3 0 0).toInt ≤ 5) (hf0 : 0 ≤ (g 4 0 0).toInt) (hf : (g 4 0 0).toInt ≤ 20) (hl0 : 0 ≤ (g 11 0 0).toInt) (hl9 : (g 11 0 0).toInt < 300) : vCt G yX12_adds cX12_adds 2 none 0 [.ref (A (40, 0)), .int (x)] A (wm g r) (fun v A2 h2 => v = none ∧ A2 = A ∧ h2 = wm (S_X12_adds g x) r) (vNoX) 0 0 := by
  refine v_of hG (by decide +kernel) (Nat.le_of_ble_eq_true rfl) (lv := [(0, .ref (A (40, 0))), (1, .int (x))]) rfl (fun X C hnx => ?_)
  have C : vC G X cX12_adds 2 RX12 none "adds" 0 0 0 := C
  refine v_aload_n (pc := 0) C dX12_adds_0 0 rfl rfl ?_
  refine v_get (pc := 1) C (40, 0) (v := .ref (A (73, 0))) ck_40 rfl 35 (by decide) inX12 wd_1423 rfl rfl dX12_adds_1 ?_
  refine v_aload_n (pc := 4) C dX12_adds_4 0 rfl rfl ?_
  refine v_get (pc := 5) C (40, 0) (v := .int ((g 11 0 0))) ck_40 rfl 36 (by decide) inX12 wd_1424 rfl rfl dX12_adds_5 ?_
  refine v_iload_n (pc := 8) C dX12_adds_8 1 rfl rfl ?_
  refine v_iast (pc := 9) C (73, 0) (x := x) ck_73 (by (try simp only [Int32.le_iff_toInt_le, Int32.lt_iff_toInt_lt, ← Int32.toInt_inj, vp_in_iff, Int32.reduceToInt] at hu hg hf hl0 hl9 ⊢) <;> omega) dX12_adds_9 ?_
  refine v_h (h2 := (wm (s3 g 73 ((g 11 0 0)).toNatClampNeg 0 (x)) r)) (u_73_a) ?_
  refine v_aload_n (pc := 10) C dX12_adds_10 0 rfl rfl ?_
  refine v_dup (pc := 11) C dX12_adds_11 rfl ?_
  refine v_get (pc := 12) C (40, 0) (v := .int ((g 11 0 0))) ck_40 rfl 36 (by decide) inX12 wd_1424 rfl rfl dX12_adds_12 ?_
  refine v_iconst (v := 1) (pc := 15) C dX12_adds_15 rfl ?_
  refine v_iadd (pc := 16) C dX12_adds_16 ?_
  refine v_put (pc := 17) C (40, 0) (v := .int (((g 11 0 0) + 1))) ck_40 rfl 36 (by decide) inX12 tyX12 tyX12_ok nmX12 wd_1424 rfl (.inl (Value.int (((g 11 0 0) + 1)))) rfl (ty := tyX12 36) (by decide +kernel) rfl rfl (Nat.le_of_ble_eq_true rfl) dX12_adds_17 ?_
  refine v_h (h2 := (wm (s3 (s3 g 73 ((g 11 0 0)).toNatClampNeg 0 (x)) 11 0 0 (((g 11 0 0) + 1))) r)) (u_40_36) ?_
  exact v_vret (pc := 20) C (by decide) (by decide) dX12_adds_20 ⟨rfl, rfl, (congrArg (fun q => wm q r) (by show _ = _; rw [S_X12_adds]))⟩
def V_X12_latest (g : vS) (x : Int32) (u : Int32) : Int32 := (if (g 52 (x).toNatClampNeg (u).toNatClampNeg) = 0 then (g 54 (x).toNatClampNeg (u).toNatClampNeg) else (g 50 (x).toNatClampNeg 0))
set_option maxHeartbeats 4000000 in
set_option maxRecDepth 100000 in
theorem c_X12_latest {G : vG} (hG : G.1.stackTraces = false) {A : vN → Nat} {g : vS} {r : vH} (x : Int32) (u : Int32) (hu0 : 0 ≤ (g 2 0 0).toInt) (hu : (g 2 0 0).toInt ≤ 6) (hg0 : 0 ≤ (g 3 0 0).toInt) (hg : (g 3 0 0).toInt ≤ 5) (hf0 : 0 ≤ (g 4 0 0).toInt) (hf : (g 4 0 0).toInt ≤ 20) (x_0 : 0 ≤ (x).toInt) (x_N : (x).toInt < 5) (u_0 : 0 ≤ (u).toInt) (u_N : (u).toInt < 6) : vCt G yX12_latest cX12_latest 3 (some .int) 0 [.ref (A (40, 0)), .int (x), .int (u)] A (wm g r) (fun v A2 h2 => v = some (.int (V_X12_latest g x u)) ∧ A2 = A ∧ h2 = wm g r) (vNoX) 0 0 := by
  refine v_of hG (by decide +kernel) (Nat.le_of_ble_eq_true rfl) (lv := [(0, .ref (A (40, 0))), (1, .int (x)), (2, .int (u))]) rfl (fun X C hnx => ?_)
  have C : vC G X cX12_latest 3 RX12 (some .int) "latest" 0 0 0 := C
  refine v_aload_n (pc := 0) C dX12_latest_0 0 rfl rfl ?_
  refine v_get (pc := 1) C (40, 0) (v := .ref (A (51, 0))) ck_40 rfl 11 (by decide) inX12 wd_1399 rfl rfl dX12_latest_1 ?_
  refine v_iload_n (pc := 4) C dX12_latest_4 1 rfl rfl ?_
  refine v_aald (pc := 5) C (51, 0) ck_51 rfl rfl (by (try simp only [Int32.le_iff_toInt_le, Int32.lt_iff_toInt_lt, ← Int32.toInt_inj, vp_in_iff, Int32.reduceToInt] at hu hg hf x_0 x_N u_0 u_N ⊢) <;> omega) (52, (x).toNatClampNeg) rfl dX12_latest_5 ?_
  refine v_iload_n (pc := 6) C dX12_latest_6 2 rfl rfl ?_
  refine v_zald (pc := 7) C (52, (x).toNatClampNeg) (v := (g 52 (x).toNatClampNeg (u).toNatClampNeg)) (ck_52 (g := g) (tn_lt (by (try simp only [Int32.le_iff_toInt_le, Int32.lt_iff_toInt_lt, ← Int32.toInt_inj, Int32.reduceToInt] at hu hg hf x_0 x_N u_0 u_N ⊢); omega))) (by (try simp only [Int32.le_iff_toInt_le, Int32.lt_iff_toInt_lt, ← Int32.toInt_inj, vp_in_iff, Int32.reduceToInt] at hu hg hf x_0 x_N u_0 u_N ⊢) <;> omega) rfl dX12_latest_7 ?_
  refine v_if_eq (pc := 8) (tgt := 20) C dX12_latest_8 (by decide) (fun c_1 => ?_) (fun c_1 => ?_)
  · skip
    refine v_aload_n (pc := 20) C dX12_latest_20 0 rfl rfl ?_
    refine v_get (pc := 21) C (40, 0) (v := .ref (A (53, 0))) ck_40 rfl 12 (by decide) inX12 wd_1400 rfl rfl dX12_latest_21 ?_
    refine v_iload_n (pc := 24) C dX12_latest_24 1 rfl rfl ?_
    refine v_aald (pc := 25) C (53, 0) ck_53 rfl rfl (by (try simp only [Int32.le_iff_toInt_le, Int32.lt_iff_toInt_lt, ← Int32.toInt_inj, vp_in_iff, Int32.reduceToInt] at c_1 hu hg hf x_0 x_N u_0 u_N ⊢) <;> omega) (54, (x).toNatClampNeg) rfl dX12_latest_25 ?_
    refine v_iload_n (pc := 26) C dX12_latest_26 2 rfl rfl ?_
    refine v_iald (pc := 27) C (54, (x).toNatClampNeg) (v := (g 54 (x).toNatClampNeg (u).toNatClampNeg)) (ck_54 (g := g) (tn_lt (by (try simp only [Int32.le_iff_toInt_le, Int32.lt_iff_toInt_lt, ← Int32.toInt_inj, Int32.reduceToInt] at c_1 hu hg hf x_0 x_N u_0 u_N ⊢); omega))) (by (try simp only [Int32.le_iff_toInt_le, Int32.lt_iff_toInt_lt, ← Int32.toInt_inj, vp_in_iff, Int32.reduceToInt] at c_1 hu hg hf x_0 x_N u_0 u_N ⊢) <;> omega) rfl dX12_latest_27 ?_
    exact v_iret (pc := 28) C (by decide) (by decide) dX12_latest_28 ⟨(congrArg (fun q => some (Value.int q)) (by show _ = _; rw [V_X12_latest, if_pos c_1])), rfl, rfl⟩
  · skip
    refine v_aload_n (pc := 11) C dX12_latest_11 0 rfl rfl ?_
    refine v_get (pc := 12) C (40, 0) (v := .ref (A (50, 0))) ck_40 rfl 10 (by decide) inX12 wd_1398 rfl rfl dX12_latest_12 ?_
    refine v_iload_n (pc := 15) C dX12_latest_15 1 rfl rfl ?_
    refine v_iald (pc := 16) C (50, 0) (v := (g 50 (x).toNatClampNeg 0)) ck_50 (by (try simp only [Int32.le_iff_toInt_le, Int32.lt_iff_toInt_lt, ← Int32.toInt_inj, vp_in_iff, Int32.reduceToInt] at c_1 hu hg hf x_0 x_N u_0 u_N ⊢) <;> omega) rfl dX12_latest_16 ?_
    refine v_goto (tgt := 28) (pc := 17) C dX12_latest_17 (by decide) ?_
    exact v_iret (pc := 28) C (by decide) (by decide) dX12_latest_28 ⟨(congrArg (fun q => some (Value.int q)) (by show _ = _; rw [V_X12_latest, if_neg c_1])), rfl, rfl⟩
def V_X12_known (g : vS) (x : Int32) (u : Int32) : Int32 := (if (V_X12_isGroup g (x)) = 0 then 0 else (if (V_X12_isUser g (u)) = 0 then 0 else (V_X12_latest (S_X12_isWrong g (0)) (x) (u))))
def S_X12_known (g : vS) (x : Int32) (u : Int32) : vS := (if (V_X12_isGroup g (x)) = 0 then (S_X12_isWrong g (1)) else (if (V_X12_isUser g (u)) = 0 then (S_X12_isWrong g (1)) else (S_X12_isWrong g (0))))
theorem F_X12_known {g : vS} {x : Int32} {u : Int32} {c i j : Nat} (h1 : c ≠ 1) : S_X12_known g x u c i j = g c i j := by
  unfold S_X12_known
  (repeat' split) <;> first | rfl | ((simp only [s3_k h1, F_X12_isWrong h1]) <;> first | done | rfl)
set_option maxHeartbeats 4000000 in
set_option maxRecDepth 100000 in
theorem c_X12_known {G : vG} (hG : G.1.stackTraces = false) {A : vN → Nat} {g : vS} {r : vH} (x : Int32) (u : Int32) (hu0 : 0 ≤ (g 2 0 0).toInt) (hu : (g 2 0 0).toInt ≤ 6) (hg0 : 0 ≤ (g 3 0 0).toInt) (hg : (g 3 0 0).toInt ≤ 5) (hf0 : 0 ≤ (g 4 0 0).toInt) (hf : (g 4 0 0).toInt ≤ 20) : vCt G yX12_known cX12_known 3 (some .int) 2 [.ref (A (40, 0)), .int (x), .int (u)] A (wm g r) (fun v A2 h2 => v = some (.int (V_X12_known g x u)) ∧ A2 = A ∧ h2 = wm (S_X12_known g x u) r) (vNoX) 0 0 := by
  refine v_of hG (by decide +kernel) (Nat.le_of_ble_eq_true rfl) (lv := [(0, .ref (A (40, 0))), (1, .int (x)), (2, .int (u))]) rfl (fun X C hnx => ?_)
  have C : vC G X cX12_known 3 RX12 (some .int) "known" 2 0 0 := C
  refine v_aload_n (pc := 0) C dX12_known_0 0 rfl rfl ?_
  refine v_aload_n (pc := 1) C dX12_known_1 0 rfl rfl ?_
  refine v_iload_n (pc := 2) C dX12_known_2 1 rfl rfl ?_
  refine v_callV (pc := 3) C (40, 0) ck_40 rfl (c_X12_isGroup hG (x) ) 1 wd_1547 wd_68 wd_1544 wd_1546 wd_37 (by decide +kernel) (by decide) (by decide) rfl ([.ref (A (40, 0))]) rfl (Nat.le_of_ble_eq_true rfl) (by decide) dX12_known_3 (fun _ _ _ q => q.elim) (fun v9 A9 h9 hR9 => ?_)
  obtain ⟨rfl, hA9, rfl⟩ := hR9
  obtain rfl := hA9.symm
  refine v_st (k2 := 0) (n2 := 0) (st2 := [.int ((V_X12_isGroup g (x))), .ref (A (40, 0))]) rfl rfl rfl ?_
  have b_1 := ok_isGroup (g := g) (x := x) hg0
  refine v_if_eq (pc := 6) (tgt := 21) C dX12_known_6 (by decide) (fun c_2 => ?_) (fun c_2 => ?_)
  · skip
    refine v_iconst (v := 1) (pc := 21) C dX12_known_21 rfl ?_
    refine v_callV (pc := 22) C (40, 0) ck_40 rfl (c_X12_isWrong hG (1) ) 1 wd_1531 wd_68 wd_1528 wd_1530 wd_35 (by decide +kernel) (by decide) (by decide) rfl ([]) rfl (Nat.le_of_ble_eq_true rfl) (by decide) dX12_known_22 (fun _ _ _ q => q.elim) (fun v9 A9 h9 hR9 => ?_)
    obtain ⟨rfl, hA9, rfl⟩ := hR9
    obtain rfl := hA9.symm
    refine v_st (k2 := 0) (n2 := 0) (st2 := [.int ((V_X12_isWrong g (1)))]) rfl rfl rfl ?_
    refine v_if_eq (pc := 25) (tgt := 32) C dX12_known_25 (by decide) (fun c_3 => ?_) (fun c_3 => ?_)
    · skip
      exact absurd c_3 (fun q9 => ((show ¬ (1 : Int32) = 0 from by decide)) q9)
    · skip
      refine v_iconst (v := 0) (pc := 28) C dX12_known_28 rfl ?_
      refine v_goto (tgt := 38) (pc := 29) C dX12_known_29 (by decide) ?_
      exact v_iret (pc := 38) C (by decide) (by decide) dX12_known_38 ⟨(congrArg (fun q => some (Value.int q)) (by show _ = _; rw [V_X12_known, if_pos c_2])), rfl, (congrArg (fun q => wm q r) (by show _ = _; rw [S_X12_known, if_pos c_2]))⟩
  · skip
    refine v_aload_n (pc := 9) C dX12_known_9 0 rfl rfl ?_
    refine v_iload_n (pc := 10) C dX12_known_10 2 rfl rfl ?_
    refine v_callV (pc := 11) C (40, 0) ck_40 rfl (c_X12_isUser hG (u) ) 1 wd_1539 wd_68 wd_1536 wd_1538 wd_36 (by decide +kernel) (by decide) (by decide) rfl ([.ref (A (40, 0))]) rfl (Nat.le_of_ble_eq_true rfl) (by decide) dX12_known_11 (fun _ _ _ q => q.elim) (fun v9 A9 h9 hR9 => ?_)
    obtain ⟨rfl, hA9, rfl⟩ := hR9
    obtain rfl := hA9.symm
    refine v_st (k2 := 0) (n2 := 0) (st2 := [.int ((V_X12_isUser g (u))), .ref (A (40, 0))]) rfl rfl rfl ?_
    have b_4 := ok_isUser (g := g) (x := u) hu0
    refine v_if_eq (pc := 14) (tgt := 21) C dX12_known_14 (by decide) (fun c_5 => ?_) (fun c_5 => ?_)
    · skip
      refine v_iconst (v := 1) (pc := 21) C dX12_known_21 rfl ?_
      refine v_callV (pc := 22) C (40, 0) ck_40 rfl (c_X12_isWrong hG (1) ) 1 wd_1531 wd_68 wd_1528 wd_1530 wd_35 (by decide +kernel) (by decide) (by decide) rfl ([]) rfl (Nat.le_of_ble_eq_true rfl) (by decide) dX12_known_22 (fun _ _ _ q => q.elim) (fun v9 A9 h9 hR9 => ?_)
      obtain ⟨rfl, hA9, rfl⟩ := hR9
      obtain rfl := hA9.symm
      refine v_st (k2 := 0) (n2 := 0) (st2 := [.int ((V_X12_isWrong g (1)))]) rfl rfl rfl ?_
      refine v_if_eq (pc := 25) (tgt := 32) C dX12_known_25 (by decide) (fun c_6 => ?_) (fun c_6 => ?_)
      · skip
        exact absurd c_6 (fun q9 => ((show ¬ (1 : Int32) = 0 from by decide)) q9)
      · skip
        refine v_iconst (v := 0) (pc := 28) C dX12_known_28 rfl ?_
        refine v_goto (tgt := 38) (pc := 29) C dX12_known_29 (by decide) ?_
        exact v_iret (pc := 38) C (by decide) (by decide) dX12_known_38 ⟨(congrArg (fun q => some (Value.int q)) (by show _ = _; rw [V_X12_known, if_neg c_2, if_pos c_5])), rfl, (congrArg (fun q => wm q r) (by show _ = _; rw [S_X12_known, if_neg c_2, if_pos c_5]))⟩
    · skip
      refine v_iconst (v := 0) (pc := 17) C dX12_known_17 rfl ?_
      refine v_goto (tgt := 22) (pc := 18) C dX12_known_18 (by decide) ?_
      refine v_callV (pc := 22) C (40, 0) ck_40 rfl (c_X12_isWrong hG (0) ) 1 wd_1531 wd_68 wd_1528 wd_1530 wd_35 (by decide +kernel) (by decide) (by decide) rfl ([]) rfl (Nat.le_of_ble_eq_true rfl) (by decide) dX12_known_22 (fun _ _ _ q => q.elim) (fun v9 A9 h9 hR9 => ?_)
      obtain ⟨rfl, hA9, rfl⟩ := hR9
      obtain rfl := hA9.symm
      refine v_st (k2 := 0) (n2 := 0) (st2 := [.int ((V_X12_isWrong g (0)))]) rfl rfl rfl ?_
      refine v_if_eq (pc := 25) (tgt := 32) C dX12_known_25 (by decide) (fun c_7 => ?_) (fun c_7 => ?_)
      · skip
        refine v_aload_n (pc := 32) C dX12_known_32 0 rfl rfl ?_
        refine v_iload_n (pc := 33) C dX12_known_33 1 rfl rfl ?_
        refine v_iload_n (pc := 34) C dX12_known_34 2 rfl rfl ?_
        refine v_callV (pc := 35) C (40, 0) ck_40 rfl (c_X12_latest hG (x) (u) (by rw [show (S_X12_isWrong g (0)) 2 0 0 = g 2 0 0 from F_X12_isWrong (by decide)]; exact hu0) (by rw [show (S_X12_isWrong g (0)) 2 0 0 = g 2 0 0 from F_X12_isWrong (by decide)]; exact hu) (by rw [show (S_X12_isWrong g (0)) 3 0 0 = g 3 0 0 from F_X12_isWrong (by decide)]; exact hg0) (by rw [show (S_X12_isWrong g (0)) 3 0 0 = g 3 0 0 from F_X12_isWrong (by decide)]; exact hg) (by rw [show (S_X12_isWrong g (0)) 4 0 0 = g 4 0 0 from F_X12_isWrong (by decide)]; exact hf0) (by rw [show (S_X12_isWrong g (0)) 4 0 0 = g 4 0 0 from F_X12_isWrong (by decide)]; exact hf) (by (try simp only [Int32.le_iff_toInt_le, Int32.lt_iff_toInt_lt, ← Int32.toInt_inj, Int32.reduceToInt] at c_2 c_5 c_7 b_1 b_4 hu hg hf ⊢); omega) (by (try simp only [Int32.le_iff_toInt_le, Int32.lt_iff_toInt_lt, ← Int32.toInt_inj, Int32.reduceToInt] at c_2 c_5 c_7 b_1 b_4 hu hg hf ⊢); omega) (by (try simp only [Int32.le_iff_toInt_le, Int32.lt_iff_toInt_lt, ← Int32.toInt_inj, Int32.reduceToInt] at c_2 c_5 c_7 b_1 b_4 hu hg hf ⊢); omega) (by (try simp only [Int32.le_iff_toInt_le, Int32.lt_iff_toInt_lt, ← Int32.toInt_inj, Int32.reduceToInt] at c_2 c_5 c_7 b_1 b_4 hu hg hf ⊢); omega)) 2 wd_1601 wd_68 wd_1598 wd_1600 wd_44 (by decide +kernel) (by decide) (by decide) rfl ([]) rfl (Nat.le_of_ble_eq_true rfl) (by decide) dX12_known_35 (fun _ _ _ q => q.elim) (fun v9 A9 h9 hR9 => ?_)
        obtain ⟨rfl, hA9, rfl⟩ := hR9
        obtain rfl := hA9.symm
        refine v_st (k2 := 0) (n2 := 0) (st2 := [.int ((V_X12_latest (S_X12_isWrong g (0)) (x) (u)))]) rfl rfl rfl ?_
        exact v_iret (pc := 38) C (by decide) (by decide) dX12_known_38 ⟨(congrArg (fun q => some (Value.int q)) (by show _ = _; rw [V_X12_known, if_neg c_2, if_neg c_5])), rfl, (congrArg (fun q => wm q r) (by show _ = _; rw [S_X12_known, if_neg c_2, if_neg c_5]))⟩
      · skip
        exact absurd c_7 (fun q9 => q9 ((show (0 : Int32) = 0 from rfl)))
def V_X12_keyOf (g : vS) (x : Int32) (y : Int32) (z : Int32) : Int32 := pMix (pMix (pMix (4) (x)) (y)) (z)
set_option maxHeartbeats 4000000 in
set_option maxRecDepth 100000 in
theorem c_X12_keyOf {G : vG} (hG : G.1.stackTraces = false) {A : vN → Nat} {g : vS} {r : vH} (x : Int32) (y : Int32) (z : Int32)  : vCt G yX12_keyOf cX12_keyOf 3 (some .int) 2 [.int (x), .int (y), .int (z)] A (wm g r) (fun v A2 h2 => v = some (.int (V_X12_keyOf g x y z)) ∧ A2 = A ∧ h2 = wm g r) (vNoX) 0 0 := by
  refine v_of hG (by decide +kernel) (Nat.le_of_ble_eq_true rfl) (lv := [(0, .int (x)), (1, .int (y)), (2, .int (z))]) rfl (fun X C hnx => ?_)
  have C : vC G X cX12_keyOf 3 RX12 (some .int) "keyOf" 2 0 0 := C
  refine v_iconst (v := 4) (pc := 0) C dX12_keyOf_0 rfl ?_
  refine v_iload_n (pc := 1) C dX12_keyOf_1 0 rfl rfl ?_
  refine v_callS (pc := 2) C (c_X12_mix hG (4) (x)) 2 wd_1554 wd_68 wd_1552 wd_1553 (by decide +kernel) (by decide) (by decide) rfl ([]) rfl (Nat.le_of_ble_eq_true rfl) (by decide) dX12_keyOf_2 (fun _ _ _ q => q.elim) (fun v9 A9 h9 hR9 => ?_)
  obtain ⟨rfl, hA9, rfl⟩ := hR9
  obtain rfl := hA9.symm
  refine v_st (k2 := 0) (n2 := 0) (st2 := [.int (pMix (4) (x))]) rfl rfl rfl ?_
  refine v_iload_n (pc := 5) C dX12_keyOf_5 1 rfl rfl ?_
  refine v_callS (pc := 6) C (c_X12_mix hG (pMix (4) (x)) (y)) 2 wd_1554 wd_68 wd_1552 wd_1553 (by decide +kernel) (by decide) (by decide) rfl ([]) rfl (Nat.le_of_ble_eq_true rfl) (by decide) dX12_keyOf_6 (fun _ _ _ q => q.elim) (fun v9 A9 h9 hR9 => ?_)
  obtain ⟨rfl, hA9, rfl⟩ := hR9
  obtain rfl := hA9.symm
  refine v_st (k2 := 0) (n2 := 0) (st2 := [.int (pMix (pMix (4) (x)) (y))]) rfl rfl rfl ?_
  refine v_iload_n (pc := 9) C dX12_keyOf_9 2 rfl rfl ?_
  refine v_callS (pc := 10) C (c_X12_mix hG (pMix (pMix (4) (x)) (y)) (z)) 2 wd_1554 wd_68 wd_1552 wd_1553 (by decide +kernel) (by decide) (by decide) rfl ([]) rfl (Nat.le_of_ble_eq_true rfl) (by decide) dX12_keyOf_10 (fun _ _ _ q => q.elim) (fun v9 A9 h9 hR9 => ?_)
  obtain ⟨rfl, hA9, rfl⟩ := hR9
  obtain rfl := hA9.symm
  refine v_st (k2 := 0) (n2 := 0) (st2 := [.int (pMix (pMix (pMix (4) (x)) (y)) (z))]) rfl rfl rfl ?_
  exact v_iret (pc := 13) C (by decide) (by decide) dX12_keyOf_13 ⟨(congrArg (fun q => some (Value.int q)) (by show _ = _; rw [V_X12_keyOf])), rfl, rfl⟩
def V_X12_token (g : vS) (x : Int32) (y : Int32) (z : Int32) : Int32 := pMix (pMix (pMix (2) (x)) (y)) (z)
set_option maxHeartbeats 4000000 in
set_option maxRecDepth 100000 in
theorem c_X12_token {G : vG} (hG : G.1.stackTraces = false) {A : vN → Nat} {g : vS} {r : vH} (x : Int32) (y : Int32) (z : Int32)  : vCt G yX12_token cX12_token 3 (some .int) 2 [.int (x), .int (y), .int (z)] A (wm g r) (fun v A2 h2 => v = some (.int (V_X12_token g x y z)) ∧ A2 = A ∧ h2 = wm g r) (vNoX) 0 0 := by
  refine v_of hG (by decide +kernel) (Nat.le_of_ble_eq_true rfl) (lv := [(0, .int (x)), (1, .int (y)), (2, .int (z))]) rfl (fun X C hnx => ?_)
  have C : vC G X cX12_token 3 RX12 (some .int) "token" 2 0 0 := C
  refine v_iconst (v := 2) (pc := 0) C dX12_token_0 rfl ?_
  refine v_iload_n (pc := 1) C dX12_token_1 0 rfl rfl ?_
  refine v_callS (pc := 2) C (c_X12_mix hG (2) (x)) 2 wd_1554 wd_68 wd_1552 wd_1553 (by decide +kernel) (by decide) (by decide) rfl ([]) rfl (Nat.le_of_ble_eq_true rfl) (by decide) dX12_token_2 (fun _ _ _ q => q.elim) (fun v9 A9 h9 hR9 => ?_)
  obtain ⟨rfl, hA9, rfl⟩ := hR9
  obtain rfl := hA9.symm
  refine v_st (k2 := 0) (n2 := 0) (st2 := [.int (pMix (2) (x))]) rfl rfl rfl ?_
  refine v_iload_n (pc := 5) C dX12_token_5 1 rfl rfl ?_
  refine v_callS (pc := 6) C (c_X12_mix hG (pMix (2) (x)) (y)) 2 wd_1554 wd_68 wd_1552 wd_1553 (by decide +kernel) (by decide) (by decide) rfl ([]) rfl (Nat.le_of_ble_eq_true rfl) (by decide) dX12_token_6 (fun _ _ _ q => q.elim) (fun v9 A9 h9 hR9 => ?_)
  obtain ⟨rfl, hA9, rfl⟩ := hR9
  obtain rfl := hA9.symm
  refine v_st (k2 := 0) (n2 := 0) (st2 := [.int (pMix (pMix (2) (x)) (y))]) rfl rfl rfl ?_
  refine v_iload_n (pc := 9) C dX12_token_9 2 rfl rfl ?_
  refine v_callS (pc := 10) C (c_X12_mix hG (pMix (pMix (2) (x)) (y)) (z)) 2 wd_1554 wd_68 wd_1552 wd_1553 (by decide +kernel) (by decide) (by decide) rfl ([]) rfl (Nat.le_of_ble_eq_true rfl) (by decide) dX12_token_10 (fun _ _ _ q => q.elim) (fun v9 A9 h9 hR9 => ?_)
  obtain ⟨rfl, hA9, rfl⟩ := hR9
  obtain rfl := hA9.symm
  refine v_st (k2 := 0) (n2 := 0) (st2 := [.int (pMix (pMix (pMix (2) (x)) (y)) (z))]) rfl rfl rfl ?_
  exact v_iret (pc := 13) C (by decide) (by decide) dX12_token_13 ⟨(congrArg (fun q => some (Value.int q)) (by show _ = _; rw [V_X12_token])), rfl, rfl⟩
def S_X12_lays (g : vS) (x : Int32) (y : Int32) (z : Int32) : vS := (s3 (s3 (s3 g 67 (x).toNatClampNeg (y).toNatClampNeg (z)) 61 (x).toNatClampNeg (y).toNatClampNeg ((g 56 (x).toNatClampNeg 0))) 65 (x).toNatClampNeg (y).toNatClampNeg (pSeal (z) ((V_X12_keyOf (s3 (s3 g 67 (x).toNatClampNeg (y).toNatClampNeg (z)) 61 (x).toNatClampNeg (y).toNatClampNeg ((g 56 (x).toNatClampNeg 0))) (x) ((g 56 (x).toNatClampNeg 0)) (y)))))
theorem F_X12_lays {g : vS} {x : Int32} {y : Int32} {z : Int32} {c i j : Nat} (h61 : c ≠ 61) (h65 : c ≠ 65) (h67 : c ≠ 67) : S_X12_lays g x y z c i j = g c i j := by
  unfold S_X12_lays
  (repeat' split) <;> first | rfl | ((simp only [s3_k h61, s3_k h65, s3_k h67]) <;> first | done | rfl)
set_option maxHeartbeats 4000000 in
set_option maxRecDepth 100000 in
theorem c_X12_lays {G : vG} (hG : G.1.stackTraces = false) {A : vN → Nat} {g : vS} {r : vH} (x : Int32) (y : Int32) (z : Int32) (hu0 : 0 ≤ (g 2 0 0).toInt) (hu : (g 2 0 0).toInt ≤ 6) (hg0 : 0 ≤ (g 3 0 0).toInt) (hg : (g 3 0 0).toInt ≤ 5) (hf0 : 0 ≤ (g 4 0 0).toInt) (hf : (g 4 0 0).toInt ≤ 20) (x_0 : 0 ≤ (x).toInt) (x_N : (x).toInt < 20) (y_0 : 0 ≤ (y).toInt) (y_N : (y).toInt < 8) : vCt G yX12_lays cX12_lays 4 none 3 [.ref (A (40, 0)), .int (x), .int (y), .int (z)] A (wm g r) (fun v A2 h2 => v = none ∧ A2 = A ∧ h2 = wm (S_X12_lays g x y z) r) (vNoX) 0 0 := by
  refine v_of hG (by decide +kernel) (Nat.le_of_ble_eq_true rfl) (lv := [(0, .ref (A (40, 0))), (1, .int (x)), (2, .int (y)), (3, .int (z))]) rfl (fun X C hnx => ?_)
  have C : vC G X cX12_lays 4 RX12 none "lays" 3 0 0 := C
  refine v_aload_n (pc := 0) C dX12_lays_0 0 rfl rfl ?_
  refine v_get (pc := 1) C (40, 0) (v := .ref (A (66, 0))) ck_40 rfl 22 (by decide) inX12 wd_1410 rfl rfl dX12_lays_1 ?_
  refine v_iload_n (pc := 4) C dX12_lays_4 1 rfl rfl ?_
  refine v_aald (pc := 5) C (66, 0) ck_66 rfl rfl (by (try simp only [Int32.le_iff_toInt_le, Int32.lt_iff_toInt_lt, ← Int32.toInt_inj, vp_in_iff, Int32.reduceToInt] at hu hg hf x_0 x_N y_0 y_N ⊢) <;> omega) (67, (x).toNatClampNeg) rfl dX12_lays_5 ?_
  refine v_iload_n (pc := 6) C dX12_lays_6 2 rfl rfl ?_
  refine v_iload_n (pc := 7) C dX12_lays_7 3 rfl rfl ?_
  refine v_iast (pc := 8) C (67, (x).toNatClampNeg) (x := z) (ck_67 (g := g) (tn_lt (by (try simp only [Int32.le_iff_toInt_le, Int32.lt_iff_toInt_lt, ← Int32.toInt_inj, Int32.reduceToInt] at hu hg hf x_0 x_N y_0 y_N ⊢); omega))) (by (try simp only [Int32.le_iff_toInt_le, Int32.lt_iff_toInt_lt, ← Int32.toInt_inj, vp_in_iff, Int32.reduceToInt] at hu hg hf x_0 x_N y_0 y_N ⊢) <;> omega) dX12_lays_8 ?_
  refine v_h (h2 := (wm (s3 g 67 (x).toNatClampNeg (y).toNatClampNeg (z)) r)) (u_67_a (g := g) (tn_lt (by (try simp only [Int32.le_iff_toInt_le, Int32.lt_iff_toInt_lt, ← Int32.toInt_inj, Int32.reduceToInt] at hu hg hf x_0 x_N y_0 y_N ⊢); omega))) ?_
  refine v_aload_n (pc := 9) C dX12_lays_9 0 rfl rfl ?_
  refine v_get (pc := 10) C (40, 0) (v := .ref (A (60, 0))) ck_40 rfl 19 (by decide) inX12 wd_1407 rfl rfl dX12_lays_10 ?_
  refine v_iload_n (pc := 13) C dX12_lays_13 1 rfl rfl ?_
  refine v_aald (pc := 14) C (60, 0) ck_60 rfl rfl (by (try simp only [Int32.le_iff_toInt_le, Int32.lt_iff_toInt_lt, ← Int32.toInt_inj, vp_in_iff, Int32.reduceToInt] at hu hg hf x_0 x_N y_0 y_N ⊢) <;> omega) (61, (x).toNatClampNeg) rfl dX12_lays_14 ?_
  refine v_iload_n (pc := 15) C dX12_lays_15 2 rfl rfl ?_
  refine v_aload_n (pc := 16) C dX12_lays_16 0 rfl rfl ?_
  refine v_get (pc := 17) C (40, 0) (v := .ref (A (56, 0))) ck_40 rfl 16 (by decide) inX12 wd_1404 rfl rfl dX12_lays_17 ?_
  refine v_iload_n (pc := 20) C dX12_lays_20 1 rfl rfl ?_
  refine v_iald (pc := 21) C (56, 0) (v := (g 56 (x).toNatClampNeg 0)) ck_56 (by (try simp only [Int32.le_iff_toInt_le, Int32.lt_iff_toInt_lt, ← Int32.toInt_inj, vp_in_iff, Int32.reduceToInt] at hu hg hf x_0 x_N y_0 y_N ⊢) <;> omega) rfl dX12_lays_21 ?_
  refine v_iast (pc := 22) C (61, (x).toNatClampNeg) (x := (g 56 (x).toNatClampNeg 0)) (ck_61 (g := (s3 g 67 (x).toNatClampNeg (y).toNatClampNeg (z))) (tn_lt (by (try simp only [Int32.le_iff_toInt_le, Int32.lt_iff_toInt_lt, ← Int32.toInt_inj, Int32.reduceToInt] at hu hg hf x_0 x_N y_0 y_N ⊢); omega))) (by (try simp only [Int32.le_iff_toInt_le, Int32.lt_iff_toInt_lt, ← Int32.toInt_inj, vp_in_iff, Int32.reduceToInt] at hu hg hf x_0 x_N y_0 y_N ⊢) <;> omega) dX12_lays_22 ?_
  refine v_h (h2 := (wm (s3 (s3 g 67 (x).toNatClampNeg (y).toNatClampNeg (z)) 61 (x).toNatClampNeg (y).toNatClampNeg ((g 56 (x).toNatClampNeg 0))) r)) (u_61_a (g := (s3 g 67 (x).toNatClampNeg (y).toNatClampNeg (z))) (tn_lt (by (try simp only [Int32.le_iff_toInt_le, Int32.lt_iff_toInt_lt, ← Int32.toInt_inj, Int32.reduceToInt] at hu hg hf x_0 x_N y_0 y_N ⊢); omega))) ?_
  refine v_aload_n (pc := 23) C dX12_lays_23 0 rfl rfl ?_
  refine v_get (pc := 24) C (40, 0) (v := .ref (A (64, 0))) ck_40 rfl 21 (by decide) inX12 wd_1409 rfl rfl dX12_lays_24 ?_
  refine v_iload_n (pc := 27) C dX12_lays_27 1 rfl rfl ?_
  refine v_aald (pc := 28) C (64, 0) ck_64 rfl rfl (by (try simp only [Int32.le_iff_toInt_le, Int32.lt_iff_toInt_lt, ← Int32.toInt_inj, vp_in_iff, Int32.reduceToInt] at hu hg hf x_0 x_N y_0 y_N ⊢) <;> omega) (65, (x).toNatClampNeg) rfl dX12_lays_28 ?_
  refine v_iload_n (pc := 29) C dX12_lays_29 2 rfl rfl ?_
  refine v_iload_n (pc := 30) C dX12_lays_30 3 rfl rfl ?_
  refine v_iload_n (pc := 31) C dX12_lays_31 1 rfl rfl ?_
  refine v_aload_n (pc := 32) C dX12_lays_32 0 rfl rfl ?_
  refine v_get (pc := 33) C (40, 0) (v := .ref (A (56, 0))) ck_40 rfl 16 (by decide) inX12 wd_1404 rfl rfl dX12_lays_33 ?_
  refine v_iload_n (pc := 36) C dX12_lays_36 1 rfl rfl ?_
  refine v_iald (pc := 37) C (56, 0) (v := (g 56 (x).toNatClampNeg 0)) ck_56 (by (try simp only [Int32.le_iff_toInt_le, Int32.lt_iff_toInt_lt, ← Int32.toInt_inj, vp_in_iff, Int32.reduceToInt] at hu hg hf x_0 x_N y_0 y_N ⊢) <;> omega) rfl dX12_lays_37 ?_
  refine v_iload_n (pc := 38) C dX12_lays_38 2 rfl rfl ?_
  refine v_callS (pc := 39) C (c_X12_keyOf hG (x) ((g 56 (x).toNatClampNeg 0)) (y) ) 3 wd_1585 wd_68 wd_1583 wd_1584 (by decide +kernel) (by decide) (by decide) rfl ([.int (z), .int (y), .ref (A (65, (x).toNatClampNeg))]) rfl (Nat.le_of_ble_eq_true rfl) (by decide) dX12_lays_39 (fun _ _ _ q => q.elim) (fun v9 A9 h9 hR9 => ?_)
  obtain ⟨rfl, hA9, rfl⟩ := hR9
  obtain rfl := hA9.symm
  refine v_st (k2 := 0) (n2 := 0) (st2 := [.int ((V_X12_keyOf (s3 (s3 g 67 (x).toNatClampNeg (y).toNatClampNeg (z)) 61 (x).toNatClampNeg (y).toNatClampNeg ((g 56 (x).toNatClampNeg 0))) (x) ((g 56 (x).toNatClampNeg 0)) (y))), .int (z), .int (y), .ref (A (65, (x).toNatClampNeg))]) rfl rfl rfl ?_
  refine v_callS (pc := 42) C (c_X12_seals hG (z) ((V_X12_keyOf (s3 (s3 g 67 (x).toNatClampNeg (y).toNatClampNeg (z)) 61 (x).toNatClampNeg (y).toNatClampNeg ((g 56 (x).toNatClampNeg 0))) (x) ((g 56 (x).toNatClampNeg 0)) (y)))) 2 wd_1557 wd_68 wd_1555 wd_1556 (by decide +kernel) (by decide) (by decide) rfl ([.int (y), .ref (A (65, (x).toNatClampNeg))]) rfl (Nat.le_of_ble_eq_true rfl) (by decide) dX12_lays_42 (fun _ _ _ q => q.elim) (fun v9 A9 h9 hR9 => ?_)
  obtain ⟨rfl, hA9, rfl⟩ := hR9
  obtain rfl := hA9.symm
  refine v_st (k2 := 0) (n2 := 0) (st2 := [.int (pSeal (z) ((V_X12_keyOf (s3 (s3 g 67 (x).toNatClampNeg (y).toNatClampNeg (z)) 61 (x).toNatClampNeg (y).toNatClampNeg ((g 56 (x).toNatClampNeg 0))) (x) ((g 56 (x).toNatClampNeg 0)) (y)))), .int (y), .ref (A (65, (x).toNatClampNeg))]) rfl rfl rfl ?_
  refine v_iast (pc := 45) C (65, (x).toNatClampNeg) (x := pSeal (z) ((V_X12_keyOf (s3 (s3 g 67 (x).toNatClampNeg (y).toNatClampNeg (z)) 61 (x).toNatClampNeg (y).toNatClampNeg ((g 56 (x).toNatClampNeg 0))) (x) ((g 56 (x).toNatClampNeg 0)) (y)))) (ck_65 (g := (s3 (s3 g 67 (x).toNatClampNeg (y).toNatClampNeg (z)) 61 (x).toNatClampNeg (y).toNatClampNeg ((g 56 (x).toNatClampNeg 0)))) (tn_lt (by (try simp only [Int32.le_iff_toInt_le, Int32.lt_iff_toInt_lt, ← Int32.toInt_inj, Int32.reduceToInt] at hu hg hf x_0 x_N y_0 y_N ⊢); omega))) (by (try simp only [Int32.le_iff_toInt_le, Int32.lt_iff_toInt_lt, ← Int32.toInt_inj, vp_in_iff, Int32.reduceToInt] at hu hg hf x_0 x_N y_0 y_N ⊢) <;> omega) dX12_lays_45 ?_
  refine v_h (h2 := (wm (s3 (s3 (s3 g 67 (x).toNatClampNeg (y).toNatClampNeg (z)) 61 (x).toNatClampNeg (y).toNatClampNeg ((g 56 (x).toNatClampNeg 0))) 65 (x).toNatClampNeg (y).toNatClampNeg (pSeal (z) ((V_X12_keyOf (s3 (s3 g 67 (x).toNatClampNeg (y).toNatClampNeg (z)) 61 (x).toNatClampNeg (y).toNatClampNeg ((g 56 (x).toNatClampNeg 0))) (x) ((g 56 (x).toNatClampNeg 0)) (y))))) r)) (u_65_a (g := (s3 (s3 g 67 (x).toNatClampNeg (y).toNatClampNeg (z)) 61 (x).toNatClampNeg (y).toNatClampNeg ((g 56 (x).toNatClampNeg 0)))) (tn_lt (by (try simp only [Int32.le_iff_toInt_le, Int32.lt_iff_toInt_lt, ← Int32.toInt_inj, Int32.reduceToInt] at hu hg hf x_0 x_N y_0 y_N ⊢); omega))) ?_
  exact v_vret (pc := 46) C (by decide) (by decide) dX12_lays_46 ⟨rfl, rfl, (congrArg (fun q => wm q r) (by show _ = _; rw [S_X12_lays]))⟩
def VL_X12_markOf_9 (g : vS) (x : Int32) : Nat → Nat → Int32 → Int32
  | 0, _, _ => 0
  | n + 1, i_9, x_9_2 => (if 8 ≤ nI i_9 then x_9_2 else (if (g 63 (x).toNatClampNeg i_9) ≤ 0 then (VL_X12_markOf_9 g x n (i_9 + 1) (x_9_2)) else (VL_X12_markOf_9 g x n (i_9 + 1) (pMix (x_9_2) (((g 65 (x).toNatClampNeg i_9) ^^^ nI i_9))))))
def V_X12_markOf (g : vS) (x : Int32) : Int32 := (VL_X12_markOf_9 g x (8 + 1) 0 (pMix (6) (x)))
set_option maxHeartbeats 4000000 in
set_option maxRecDepth 100000 in
theorem c_X12_markOf {G : vG} (hG : G.1.stackTraces = false) {A : vN → Nat} {g : vS} {r : vH} (x : Int32) (hu0 : 0 ≤ (g 2 0 0).toInt) (hu : (g 2 0 0).toInt ≤ 6) (hg0 : 0 ≤ (g 3 0 0).toInt) (hg : (g 3 0 0).toInt ≤ 5) (hf0 : 0 ≤ (g 4 0 0).toInt) (hf : (g 4 0 0).toInt ≤ 20) (x_0 : 0 ≤ (x).toInt) (x_N : (x).toInt < 20) : vCt G yX12_markOf cX12_markOf 4 (some .int) 2 [.ref (A (40, 0)), .int (x)] A (wm g r) (fun v A2 h2 => v = some (.int (V_X12_markOf g x)) ∧ A2 = A ∧ h2 = wm g r) (vNoX) 0 0 := by
  refine v_of hG (by decide +kernel) (Nat.le_of_ble_eq_true rfl) (lv := [(0, .ref (A (40, 0))), (1, .int (x))]) rfl (fun X C hnx => ?_)
  have C : vC G X cX12_markOf 4 RX12 (some .int) "markOf" 2 0 0 := C
  refine v_bipush (v := 6) (pc := 0) C dX12_markOf_0 (by decide) ?_
  refine v_iload_n (pc := 2) C dX12_markOf_2 1 rfl rfl ?_
  refine v_callS (pc := 3) C (c_X12_mix hG (6) (x)) 2 wd_1554 wd_68 wd_1552 wd_1553 (by decide +kernel) (by decide) (by decide) rfl ([]) rfl (Nat.le_of_ble_eq_true rfl) (by decide) dX12_markOf_3 (fun _ _ _ q => q.elim) (fun v9 A9 h9 hR9 => ?_)
  obtain ⟨rfl, hA9, rfl⟩ := hR9
  obtain rfl := hA9.symm
  refine v_st (k2 := 0) (n2 := 0) (st2 := [.int (pMix (6) (x))]) rfl rfl rfl ?_
  refine v_istore_n (lv2 := [(2, .int (pMix (6) (x))), (0, .ref (A (40, 0))), (1, .int (x))]) (pc := 6) C dX12_markOf_6 rfl (by decide) rfl ?_
  refine v_iconst (v := 0) (pc := 7) C dX12_markOf_7 rfl ?_
  refine v_istore_n (lv2 := [(3, .int (0)), (2, .int (pMix (6) (x))), (0, .ref (A (40, 0))), (1, .int (x))]) (pc := 8) C dX12_markOf_8 rfl (by decide) rfl ?_
  have L_9 : ∀ (n : Nat) (i_9 : Nat) (x_9_2 : Int32), i_9 ≤ 8 → 8 + 1 ≤ i_9 + n → (V_X12_markOf g x) = VL_X12_markOf_9 g x n i_9 x_9_2 → V G 4 X A (wm g r) 0 0 (vM G X (fun v A2 h2 => v = some (.int (V_X12_markOf g x)) ∧ A2 = A ∧ h2 = wm g r) (vNoX) 0 0) 9 [(3, .int (nI i_9)), (2, .int (x_9_2)), (0, .ref (A (40, 0))), (1, .int (x))] [] := by
    intro n
    induction n with
    | zero => intro i_9 x_9_2 hi_9 hc_9 eV_9; exact absurd hc_9 (by omega)
    | succ n ih =>
      intro i_9 x_9_2 hi_9 hc_9 eV_9
      have hq_9 : (nI i_9).toInt = (i_9 : Int) := nI_toInt (by omega)
      have hr_9 : (nI (i_9 + 1)).toInt = ((i_9 + 1 : Nat) : Int) := nI_toInt (by omega)
      refine v_iload_n (pc := 9) C dX12_markOf_9 0 rfl rfl ?_
      refine v_bipush (v := 8) (pc := 10) C dX12_markOf_10 (by decide) ?_
      refine v_icmp_ge (pc := 12) (tgt := 51) C dX12_markOf_12 (by decide) (fun c_1 => ?_) (fun c_1 => ?_)
      · skip
        refine v_iload_n (pc := 51) C dX12_markOf_51 1 rfl rfl ?_
        exact v_iret (pc := 52) C (by decide) (by decide) dX12_markOf_52 ⟨(congrArg (fun q => some (Value.int q)) (by show _ = _; rw [eV_9, VL_X12_markOf_9, if_pos c_1])), rfl, rfl⟩
      · skip
        refine v_aload_n (pc := 15) C dX12_markOf_15 2 rfl rfl ?_
        refine v_get (pc := 16) C (40, 0) (v := .ref (A (62, 0))) ck_40 rfl 20 (by decide) inX12 wd_1408 rfl rfl dX12_markOf_16 ?_
        refine v_iload_n (pc := 19) C dX12_markOf_19 3 rfl rfl ?_
        refine v_aald (pc := 20) C (62, 0) ck_62 rfl rfl (by (try simp only [Int32.le_iff_toInt_le, Int32.lt_iff_toInt_lt, ← Int32.toInt_inj, vp_in_iff, Int32.reduceToInt] at c_1 hq_9 hr_9 hu hg hf x_0 x_N ⊢) <;> omega) (63, (x).toNatClampNeg) rfl dX12_markOf_20 ?_
        refine v_iload_n (pc := 21) C dX12_markOf_21 0 rfl rfl ?_
        refine v_iald (pc := 22) C (63, (x).toNatClampNeg) (v := (g 63 (x).toNatClampNeg i_9)) (ck_63 (g := g) (tn_lt (by (try simp only [Int32.le_iff_toInt_le, Int32.lt_iff_toInt_lt, ← Int32.toInt_inj, Int32.reduceToInt] at c_1 hq_9 hr_9 hu hg hf x_0 x_N ⊢); omega))) (by (try simp only [Int32.le_iff_toInt_le, Int32.lt_iff_toInt_lt, ← Int32.toInt_inj, vp_in_iff, Int32.reduceToInt] at c_1 hq_9 hr_9 hu hg hf x_0 x_N ⊢) <;> omega) ((congrArg (fun k => g 63 (x).toNatClampNeg k) (show (nI i_9 : Int32).toNatClampNeg = i_9 from (nI_clamp (by omega)))).trans rfl) dX12_markOf_22 ?_
        refine v_if_le (pc := 23) (tgt := 43) C dX12_markOf_23 (by decide) (fun c_2 => ?_) (fun c_2 => ?_)
        · skip
          refine v_iload_n (pc := 43) C dX12_markOf_43 1 rfl rfl ?_
          refine v_istore_n (lv2 := [(2, .int (x_9_2)), (3, .int (nI i_9)), (0, .ref (A (40, 0))), (1, .int (x))]) (pc := 44) C dX12_markOf_44 rfl (by decide) rfl ?_
          refine v_iinc (v := nI (i_9 + 1)) (lv2 := [(3, .int (nI (i_9 + 1))), (2, .int (x_9_2)), (0, .ref (A (40, 0))), (1, .int (x))]) (pc := 45) C dX12_markOf_45 1 rfl (nI_1 _) (by decide) rfl ?_
          refine v_goto (tgt := 9) (pc := 48) C dX12_markOf_48 (by decide) ?_
          refine v_lv (lv2 := [(3, .int (nI (i_9 + 1))), (2, .int (x_9_2)), (0, .ref (A (40, 0))), (1, .int (x))]) [0, 1, 2, 3] rfl ?_
          exact ih (i_9 + 1) (x_9_2) (by (try simp only [Int32.le_iff_toInt_le, Int32.lt_iff_toInt_lt, ← Int32.toInt_inj, vp_in_iff, Int32.reduceToInt] at c_1 c_2 hq_9 hr_9 hu hg hf x_0 x_N ⊢) <;> omega) (by omega)  (by rw [eV_9, VL_X12_markOf_9, if_neg c_1, if_pos c_2])
        · skip
          refine v_iload_n (pc := 26) C dX12_markOf_26 1 rfl rfl ?_
          refine v_aload_n (pc := 27) C dX12_markOf_27 2 rfl rfl ?_
          refine v_get (pc := 28) C (40, 0) (v := .ref (A (64, 0))) ck_40 rfl 21 (by decide) inX12 wd_1409 rfl rfl dX12_markOf_28 ?_
          refine v_iload_n (pc := 31) C dX12_markOf_31 3 rfl rfl ?_
          refine v_aald (pc := 32) C (64, 0) ck_64 rfl rfl (by (try simp only [Int32.le_iff_toInt_le, Int32.lt_iff_toInt_lt, ← Int32.toInt_inj, vp_in_iff, Int32.reduceToInt] at c_1 c_2 hq_9 hr_9 hu hg hf x_0 x_N ⊢) <;> omega) (65, (x).toNatClampNeg) rfl dX12_markOf_32 ?_
          refine v_iload_n (pc := 33) C dX12_markOf_33 0 rfl rfl ?_
          refine v_iald (pc := 34) C (65, (x).toNatClampNeg) (v := (g 65 (x).toNatClampNeg i_9)) (ck_65 (g := g) (tn_lt (by (try simp only [Int32.le_iff_toInt_le, Int32.lt_iff_toInt_lt, ← Int32.toInt_inj, Int32.reduceToInt] at c_1 c_2 hq_9 hr_9 hu hg hf x_0 x_N ⊢); omega))) (by (try simp only [Int32.le_iff_toInt_le, Int32.lt_iff_toInt_lt, ← Int32.toInt_inj, vp_in_iff, Int32.reduceToInt] at c_1 c_2 hq_9 hr_9 hu hg hf x_0 x_N ⊢) <;> omega) ((congrArg (fun k => g 65 (x).toNatClampNeg k) (show (nI i_9 : Int32).toNatClampNeg = i_9 from (nI_clamp (by omega)))).trans rfl) dX12_markOf_34 ?_
          refine v_iload_n (pc := 35) C dX12_markOf_35 0 rfl rfl ?_
          refine v_ixor (pc := 36) C dX12_markOf_36 ?_
          refine v_callS (pc := 37) C (c_X12_mix hG (x_9_2) (((g 65 (x).toNatClampNeg i_9) ^^^ nI i_9))) 2 wd_1554 wd_68 wd_1552 wd_1553 (by decide +kernel) (by decide) (by decide) rfl ([]) rfl (Nat.le_of_ble_eq_true rfl) (by decide) dX12_markOf_37 (fun _ _ _ q => q.elim) (fun v9 A9 h9 hR9 => ?_)
          obtain ⟨rfl, hA9, rfl⟩ := hR9
          obtain rfl := hA9.symm
          refine v_st (k2 := 0) (n2 := 0) (st2 := [.int (pMix (x_9_2) (((g 65 (x).toNatClampNeg i_9) ^^^ nI i_9)))]) rfl rfl rfl ?_
          refine v_goto (tgt := 44) (pc := 40) C dX12_markOf_40 (by decide) ?_
          refine v_istore_n (lv2 := [(2, .int (pMix (x_9_2) (((g 65 (x).toNatClampNeg i_9) ^^^ nI i_9)))), (3, .int (nI i_9)), (0, .ref (A (40, 0))), (1, .int (x))]) (pc := 44) C dX12_markOf_44 rfl (by decide) rfl ?_
          refine v_iinc (v := nI (i_9 + 1)) (lv2 := [(3, .int (nI (i_9 + 1))), (2, .int (pMix (x_9_2) (((g 65 (x).toNatClampNeg i_9) ^^^ nI i_9)))), (0, .ref (A (40, 0))), (1, .int (x))]) (pc := 45) C dX12_markOf_45 1 rfl (nI_1 _) (by decide) rfl ?_
          refine v_goto (tgt := 9) (pc := 48) C dX12_markOf_48 (by decide) ?_
          refine v_lv (lv2 := [(3, .int (nI (i_9 + 1))), (2, .int (pMix (x_9_2) (((g 65 (x).toNatClampNeg i_9) ^^^ nI i_9)))), (0, .ref (A (40, 0))), (1, .int (x))]) [0, 1, 2, 3] rfl ?_
          exact ih (i_9 + 1) (pMix (x_9_2) (((g 65 (x).toNatClampNeg i_9) ^^^ nI i_9))) (by (try simp only [Int32.le_iff_toInt_le, Int32.lt_iff_toInt_lt, ← Int32.toInt_inj, vp_in_iff, Int32.reduceToInt] at c_1 c_2 hq_9 hr_9 hu hg hf x_0 x_N ⊢) <;> omega) (by omega)  (by rw [eV_9, VL_X12_markOf_9, if_neg c_1, if_neg c_2])
  exact L_9 (8 + 1) 0 (pMix (6) (x)) (by omega) (by omega)  (by rw [V_X12_markOf])
def V_X12_isSpoiled (g : vS) (x : Int32) : Int32 := (if (g 57 (x).toNatClampNeg 0) = (V_X12_markOf g (x)) then 0 else 1)
theorem B_X12_isSpoiled {g : vS} {x : Int32} : V_X12_isSpoiled g x = 0 ∨ V_X12_isSpoiled g x = 1 := by
  unfold V_X12_isSpoiled
  (repeat' split) <;> first | exact Or.inl rfl | exact Or.inr rfl
set_option maxHeartbeats 4000000 in
set_option maxRecDepth 100000 in
theorem c_X12_isSpoiled {G : vG} (hG : G.1.stackTraces = false) {A : vN → Nat} {g : vS} {r : vH} (x : Int32) (hu0 : 0 ≤ (g 2 0 0).toInt) (hu : (g 2 0 0).toInt ≤ 6) (hg0 : 0 ≤ (g 3 0 0).toInt) (hg : (g 3 0 0).toInt ≤ 5) (hf0 : 0 ≤ (g 4 0 0).toInt) (hf : (g 4 0 0).toInt ≤ 20) (x_0 : 0 ≤ (x).toInt) (x_N : (x).toInt < 20) : vCt G yX12_isSpoiled cX12_isSpoiled 2 (some .boolean) 3 [.ref (A (40, 0)), .int (x)] A (wm g r) (fun v A2 h2 => v = some (.int (V_X12_isSpoiled g x)) ∧ A2 = A ∧ h2 = wm g r) (vNoX) 0 0 := by
  refine v_of hG (by decide +kernel) (Nat.le_of_ble_eq_true rfl) (lv := [(0, .ref (A (40, 0))), (1, .int (x))]) rfl (fun X C hnx => ?_)
  have C : vC G X cX12_isSpoiled 2 RX12 (some .boolean) "isSpoiled" 3 0 0 := C
  refine v_aload_n (pc := 0) C dX12_isSpoiled_0 0 rfl rfl ?_
  refine v_get (pc := 1) C (40, 0) (v := .ref (A (57, 0))) ck_40 rfl 17 (by decide) inX12 wd_1405 rfl rfl dX12_isSpoiled_1 ?_
  refine v_iload_n (pc := 4) C dX12_isSpoiled_4 1 rfl rfl ?_
  refine v_iald (pc := 5) C (57, 0) (v := (g 57 (x).toNatClampNeg 0)) ck_57 (by (try simp only [Int32.le_iff_toInt_le, Int32.lt_iff_toInt_lt, ← Int32.toInt_inj, vp_in_iff, Int32.reduceToInt] at hu hg hf x_0 x_N ⊢) <;> omega) rfl dX12_isSpoiled_5 ?_
  refine v_aload_n (pc := 6) C dX12_isSpoiled_6 0 rfl rfl ?_
  refine v_iload_n (pc := 7) C dX12_isSpoiled_7 1 rfl rfl ?_
  refine v_callV (pc := 8) C (40, 0) ck_40 rfl (c_X12_markOf hG (x) hu0 hu hg0 hg hf0 hf (by (try simp only [Int32.le_iff_toInt_le, Int32.lt_iff_toInt_lt, ← Int32.toInt_inj, Int32.reduceToInt] at hu hg hf x_0 x_N ⊢); omega) (by (try simp only [Int32.le_iff_toInt_le, Int32.lt_iff_toInt_lt, ← Int32.toInt_inj, Int32.reduceToInt] at hu hg hf x_0 x_N ⊢); omega)) 1 wd_1574 wd_68 wd_1571 wd_1573 wd_41 (by decide +kernel) (by decide) (by decide) rfl ([.int ((g 57 (x).toNatClampNeg 0))]) rfl (Nat.le_of_ble_eq_true rfl) (by decide) dX12_isSpoiled_8 (fun _ _ _ q => q.elim) (fun v9 A9 h9 hR9 => ?_)
  obtain ⟨rfl, hA9, rfl⟩ := hR9
  obtain rfl := hA9.symm
  refine v_st (k2 := 0) (n2 := 0) (st2 := [.int ((V_X12_markOf g (x))), .int ((g 57 (x).toNatClampNeg 0))]) rfl rfl rfl ?_
  refine v_icmp_eq (pc := 11) (tgt := 18) C dX12_isSpoiled_11 (by decide) (fun c_1 => ?_) (fun c_1 => ?_)
  · skip
    refine v_iconst (v := 0) (pc := 18) C dX12_isSpoiled_18 rfl ?_
    exact v_zret (pc := 19) C rfl (by decide) (by decide) dX12_isSpoiled_19 ⟨(congrArg (fun q => some (Value.int q)) (by show _ = _; rw [V_X12_isSpoiled, if_pos c_1])), rfl, rfl⟩
  · skip
    refine v_iconst (v := 1) (pc := 14) C dX12_isSpoiled_14 rfl ?_
    refine v_goto (tgt := 19) (pc := 15) C dX12_isSpoiled_15 (by decide) ?_
    exact v_zret (pc := 19) C rfl (by decide) (by decide) dX12_isSpoiled_19 ⟨(congrArg (fun q => some (Value.int q)) (by show _ = _; rw [V_X12_isSpoiled, if_neg c_1])), rfl, rfl⟩
def VL_X12_partsOf_4 (g : vS) (x : Int32) : Nat → Nat → Int32 → Int32
  | 0, _, _ => 0
  | n + 1, i_4, x_4_2 => (if 8 ≤ nI i_4 then x_4_2 else (if (g 63 (x).toNatClampNeg i_4) ≤ 0 then (VL_X12_partsOf_4 g x n (i_4 + 1) ((x_4_2 + 0))) else (VL_X12_partsOf_4 g x n (i_4 + 1) ((x_4_2 + 1)))))
def V_X12_partsOf (g : vS) (x : Int32) : Int32 := (VL_X12_partsOf_4 g x (8 + 1) 0 (0))
set_option maxHeartbeats 4000000 in
set_option maxRecDepth 100000 in
theorem c_X12_partsOf {G : vG} (hG : G.1.stackTraces = false) {A : vN → Nat} {g : vS} {r : vH} (x : Int32) (hu0 : 0 ≤ (g 2 0 0).toInt) (hu : (g 2 0 0).toInt ≤ 6) (hg0 : 0 ≤ (g 3 0 0).toInt) (hg : (g 3 0 0).toInt ≤ 5) (hf0 : 0 ≤ (g 4 0 0).toInt) (hf : (g 4 0 0).toInt ≤ 20) (x_0 : 0 ≤ (x).toInt) (x_N : (x).toInt < 20) : vCt G yX12_partsOf cX12_partsOf 4 (some .int) 0 [.ref (A (40, 0)), .int (x)] A (wm g r) (fun v A2 h2 => v = some (.int (V_X12_partsOf g x)) ∧ A2 = A ∧ h2 = wm g r) (vNoX) 0 0 := by
  refine v_of hG (by decide +kernel) (Nat.le_of_ble_eq_true rfl) (lv := [(0, .ref (A (40, 0))), (1, .int (x))]) rfl (fun X C hnx => ?_)
  have C : vC G X cX12_partsOf 4 RX12 (some .int) "partsOf" 0 0 0 := C
  refine v_iconst (v := 0) (pc := 0) C dX12_partsOf_0 rfl ?_
  refine v_istore_n (lv2 := [(2, .int (0)), (0, .ref (A (40, 0))), (1, .int (x))]) (pc := 1) C dX12_partsOf_1 rfl (by decide) rfl ?_
  refine v_iconst (v := 0) (pc := 2) C dX12_partsOf_2 rfl ?_
  refine v_istore_n (lv2 := [(3, .int (0)), (2, .int (0)), (0, .ref (A (40, 0))), (1, .int (x))]) (pc := 3) C dX12_partsOf_3 rfl (by decide) rfl ?_
  have L_4 : ∀ (n : Nat) (i_4 : Nat) (x_4_2 : Int32), i_4 ≤ 8 → 8 + 1 ≤ i_4 + n → (V_X12_partsOf g x) = VL_X12_partsOf_4 g x n i_4 x_4_2 → V G 4 X A (wm g r) 0 0 (vM G X (fun v A2 h2 => v = some (.int (V_X12_partsOf g x)) ∧ A2 = A ∧ h2 = wm g r) (vNoX) 0 0) 4 [(3, .int (nI i_4)), (2, .int (x_4_2)), (0, .ref (A (40, 0))), (1, .int (x))] [] := by
    intro n
    induction n with
    | zero => intro i_4 x_4_2 hi_4 hc_4 eV_4; exact absurd hc_4 (by omega)
    | succ n ih =>
      intro i_4 x_4_2 hi_4 hc_4 eV_4
      have hq_4 : (nI i_4).toInt = (i_4 : Int) := nI_toInt (by omega)
      have hr_4 : (nI (i_4 + 1)).toInt = ((i_4 + 1 : Nat) : Int) := nI_toInt (by omega)
      refine v_iload_n (pc := 4) C dX12_partsOf_4 0 rfl rfl ?_
      refine v_bipush (v := 8) (pc := 5) C dX12_partsOf_5 (by decide) ?_
      refine v_icmp_ge (pc := 7) (tgt := 35) C dX12_partsOf_7 (by decide) (fun c_1 => ?_) (fun c_1 => ?_)
      · skip
        refine v_iload_n (pc := 35) C dX12_partsOf_35 1 rfl rfl ?_
        exact v_iret (pc := 36) C (by decide) (by decide) dX12_partsOf_36 ⟨(congrArg (fun q => some (Value.int q)) (by show _ = _; rw [eV_4, VL_X12_partsOf_4, if_pos c_1])), rfl, rfl⟩
      · skip
        refine v_iload_n (pc := 10) C dX12_partsOf_10 1 rfl rfl ?_
        refine v_aload_n (pc := 11) C dX12_partsOf_11 2 rfl rfl ?_
        refine v_get (pc := 12) C (40, 0) (v := .ref (A (62, 0))) ck_40 rfl 20 (by decide) inX12 wd_1408 rfl rfl dX12_partsOf_12 ?_
        refine v_iload_n (pc := 15) C dX12_partsOf_15 3 rfl rfl ?_
        refine v_aald (pc := 16) C (62, 0) ck_62 rfl rfl (by (try simp only [Int32.le_iff_toInt_le, Int32.lt_iff_toInt_lt, ← Int32.toInt_inj, vp_in_iff, Int32.reduceToInt] at c_1 hq_4 hr_4 hu hg hf x_0 x_N ⊢) <;> omega) (63, (x).toNatClampNeg) rfl dX12_partsOf_16 ?_
        refine v_iload_n (pc := 17) C dX12_partsOf_17 0 rfl rfl ?_
        refine v_iald (pc := 18) C (63, (x).toNatClampNeg) (v := (g 63 (x).toNatClampNeg i_4)) (ck_63 (g := g) (tn_lt (by (try simp only [Int32.le_iff_toInt_le, Int32.lt_iff_toInt_lt, ← Int32.toInt_inj, Int32.reduceToInt] at c_1 hq_4 hr_4 hu hg hf x_0 x_N ⊢); omega))) (by (try simp only [Int32.le_iff_toInt_le, Int32.lt_iff_toInt_lt, ← Int32.toInt_inj, vp_in_iff, Int32.reduceToInt] at c_1 hq_4 hr_4 hu hg hf x_0 x_N ⊢) <;> omega) ((congrArg (fun k => g 63 (x).toNatClampNeg k) (show (nI i_4 : Int32).toNatClampNeg = i_4 from (nI_clamp (by omega)))).trans rfl) dX12_partsOf_18 ?_
        refine v_if_le (pc := 19) (tgt := 26) C dX12_partsOf_19 (by decide) (fun c_2 => ?_) (fun c_2 => ?_)
        · skip
          refine v_iconst (v := 0) (pc := 26) C dX12_partsOf_26 rfl ?_
          refine v_iadd (pc := 27) C dX12_partsOf_27 ?_
          refine v_istore_n (lv2 := [(2, .int ((x_4_2 + 0))), (3, .int (nI i_4)), (0, .ref (A (40, 0))), (1, .int (x))]) (pc := 28) C dX12_partsOf_28 rfl (by decide) rfl ?_
          refine v_iinc (v := nI (i_4 + 1)) (lv2 := [(3, .int (nI (i_4 + 1))), (2, .int ((x_4_2 + 0))), (0, .ref (A (40, 0))), (1, .int (x))]) (pc := 29) C dX12_partsOf_29 1 rfl (nI_1 _) (by decide) rfl ?_
          refine v_goto (tgt := 4) (pc := 32) C dX12_partsOf_32 (by decide) ?_
          refine v_lv (lv2 := [(3, .int (nI (i_4 + 1))), (2, .int ((x_4_2 + 0))), (0, .ref (A (40, 0))), (1, .int (x))]) [0, 1, 2, 3] rfl ?_
          exact ih (i_4 + 1) ((x_4_2 + 0)) (by (try simp only [Int32.le_iff_toInt_le, Int32.lt_iff_toInt_lt, ← Int32.toInt_inj, vp_in_iff, Int32.reduceToInt] at c_1 c_2 hq_4 hr_4 hu hg hf x_0 x_N ⊢) <;> omega) (by omega)  (by rw [eV_4, VL_X12_partsOf_4, if_neg c_1, if_pos c_2])
        · skip
          refine v_iconst (v := 1) (pc := 22) C dX12_partsOf_22 rfl ?_
          refine v_goto (tgt := 27) (pc := 23) C dX12_partsOf_23 (by decide) ?_
          refine v_iadd (pc := 27) C dX12_partsOf_27 ?_
          refine v_istore_n (lv2 := [(2, .int ((x_4_2 + 1))), (3, .int (nI i_4)), (0, .ref (A (40, 0))), (1, .int (x))]) (pc := 28) C dX12_partsOf_28 rfl (by decide) rfl ?_
          refine v_iinc (v := nI (i_4 + 1)) (lv2 := [(3, .int (nI (i_4 + 1))), (2, .int ((x_4_2 + 1))), (0, .ref (A (40, 0))), (1, .int (x))]) (pc := 29) C dX12_partsOf_29 1 rfl (nI_1 _) (by decide) rfl ?_
          refine v_goto (tgt := 4) (pc := 32) C dX12_partsOf_32 (by decide) ?_
          refine v_lv (lv2 := [(3, .int (nI (i_4 + 1))), (2, .int ((x_4_2 + 1))), (0, .ref (A (40, 0))), (1, .int (x))]) [0, 1, 2, 3] rfl ?_
          exact ih (i_4 + 1) ((x_4_2 + 1)) (by (try simp only [Int32.le_iff_toInt_le, Int32.lt_iff_toInt_lt, ← Int32.toInt_inj, vp_in_iff, Int32.reduceToInt] at c_1 c_2 hq_4 hr_4 hu hg hf x_0 x_N ⊢) <;> omega) (by omega)  (by rw [eV_4, VL_X12_partsOf_4, if_neg c_1, if_neg c_2])
  exact L_4 (8 + 1) 0 (0) (by omega) (by omega)  (by rw [V_X12_partsOf])
def VL_X12_partsIn_4 (g : vS) (x : Int32) : Nat → Nat → Int32 → Int32
  | 0, _, _ => 0
  | n + 1, i_4, x_4_2 => (if (g 4 0 0) ≤ nI i_4 then x_4_2 else (if (g 55 i_4 0) = x then (VL_X12_partsIn_4 g x n (i_4 + 1) ((x_4_2 + (V_X12_partsOf g (nI i_4))))) else (VL_X12_partsIn_4 g x n (i_4 + 1) ((x_4_2 + 0)))))
def V_X12_partsIn (g : vS) (x : Int32) : Int32 := (VL_X12_partsIn_4 g x (20 + 1) 0 (0))
set_option maxHeartbeats 4000000 in
set_option maxRecDepth 100000 in
theorem c_X12_partsIn {G : vG} (hG : G.1.stackTraces = false) {A : vN → Nat} {g : vS} {r : vH} (x : Int32) (hu0 : 0 ≤ (g 2 0 0).toInt) (hu : (g 2 0 0).toInt ≤ 6) (hg0 : 0 ≤ (g 3 0 0).toInt) (hg : (g 3 0 0).toInt ≤ 5) (hf0 : 0 ≤ (g 4 0 0).toInt) (hf : (g 4 0 0).toInt ≤ 20) : vCt G yX12_partsIn cX12_partsIn 4 (some .int) 1 [.ref (A (40, 0)), .int (x)] A (wm g r) (fun v A2 h2 => v = some (.int (V_X12_partsIn g x)) ∧ A2 = A ∧ h2 = wm g r) (vNoX) 0 0 := by
  refine v_of hG (by decide +kernel) (Nat.le_of_ble_eq_true rfl) (lv := [(0, .ref (A (40, 0))), (1, .int (x))]) rfl (fun X C hnx => ?_)
  have C : vC G X cX12_partsIn 4 RX12 (some .int) "partsIn" 1 0 0 := C
  refine v_iconst (v := 0) (pc := 0) C dX12_partsIn_0 rfl ?_
  refine v_istore_n (lv2 := [(2, .int (0)), (0, .ref (A (40, 0))), (1, .int (x))]) (pc := 1) C dX12_partsIn_1 rfl (by decide) rfl ?_
  refine v_iconst (v := 0) (pc := 2) C dX12_partsIn_2 rfl ?_
  refine v_istore_n (lv2 := [(3, .int (0)), (2, .int (0)), (0, .ref (A (40, 0))), (1, .int (x))]) (pc := 3) C dX12_partsIn_3 rfl (by decide) rfl ?_
  have L_4 : ∀ (n : Nat) (i_4 : Nat) (x_4_2 : Int32), i_4 ≤ 20 → 20 + 1 ≤ i_4 + n → (V_X12_partsIn g x) = VL_X12_partsIn_4 g x n i_4 x_4_2 → V G 4 X A (wm g r) 0 0 (vM G X (fun v A2 h2 => v = some (.int (V_X12_partsIn g x)) ∧ A2 = A ∧ h2 = wm g r) (vNoX) 0 0) 4 [(3, .int (nI i_4)), (2, .int (x_4_2)), (0, .ref (A (40, 0))), (1, .int (x))] [] := by
    intro n
    induction n with
    | zero => intro i_4 x_4_2 hi_4 hc_4 eV_4; exact absurd hc_4 (by omega)
    | succ n ih =>
      intro i_4 x_4_2 hi_4 hc_4 eV_4
      have hq_4 : (nI i_4).toInt = (i_4 : Int) := nI_toInt (by omega)
      have hr_4 : (nI (i_4 + 1)).toInt = ((i_4 + 1 : Nat) : Int) := nI_toInt (by omega)
      refine v_iload_n (pc := 4) C dX12_partsIn_4 0 rfl rfl ?_
      refine v_aload_n (pc := 5) C dX12_partsIn_5 2 rfl rfl ?_
      refine v_get (pc := 6) C (40, 0) (v := .int ((g 4 0 0))) ck_40 rfl 24 (by decide) inX12 wd_1412 rfl rfl dX12_partsIn_6 ?_
      refine v_icmp_ge (pc := 9) (tgt := 40) C dX12_partsIn_9 (by decide) (fun c_1 => ?_) (fun c_1 => ?_)
      · skip
        refine v_iload_n (pc := 40) C dX12_partsIn_40 1 rfl rfl ?_
        exact v_iret (pc := 41) C (by decide) (by decide) dX12_partsIn_41 ⟨(congrArg (fun q => some (Value.int q)) (by show _ = _; rw [eV_4, VL_X12_partsIn_4, if_pos c_1])), rfl, rfl⟩
      · skip
        refine v_iload_n (pc := 12) C dX12_partsIn_12 1 rfl rfl ?_
        refine v_aload_n (pc := 13) C dX12_partsIn_13 2 rfl rfl ?_
        refine v_get (pc := 14) C (40, 0) (v := .ref (A (55, 0))) ck_40 rfl 15 (by decide) inX12 wd_1403 rfl rfl dX12_partsIn_14 ?_
        refine v_iload_n (pc := 17) C dX12_partsIn_17 0 rfl rfl ?_
        refine v_iald (pc := 18) C (55, 0) (v := (g 55 i_4 0)) ck_55 (by (try simp only [Int32.le_iff_toInt_le, Int32.lt_iff_toInt_lt, ← Int32.toInt_inj, vp_in_iff, Int32.reduceToInt] at c_1 hq_4 hr_4 hu hg hf ⊢) <;> omega) ((congrArg (fun k => g 55 k 0) (show (nI i_4 : Int32).toNatClampNeg = i_4 from (nI_clamp (by omega)))).trans rfl) dX12_partsIn_18 ?_
        refine v_iload_n (pc := 19) C dX12_partsIn_19 3 rfl rfl ?_
        refine v_icmp_ne (pc := 20) (tgt := 31) C dX12_partsIn_20 (by decide) (fun c_2 => ?_) (fun c_2 => ?_)
        · skip
          refine v_iconst (v := 0) (pc := 31) C dX12_partsIn_31 rfl ?_
          refine v_iadd (pc := 32) C dX12_partsIn_32 ?_
          refine v_istore_n (lv2 := [(2, .int ((x_4_2 + 0))), (3, .int (nI i_4)), (0, .ref (A (40, 0))), (1, .int (x))]) (pc := 33) C dX12_partsIn_33 rfl (by decide) rfl ?_
          refine v_iinc (v := nI (i_4 + 1)) (lv2 := [(3, .int (nI (i_4 + 1))), (2, .int ((x_4_2 + 0))), (0, .ref (A (40, 0))), (1, .int (x))]) (pc := 34) C dX12_partsIn_34 1 rfl (nI_1 _) (by decide) rfl ?_
          refine v_goto (tgt := 4) (pc := 37) C dX12_partsIn_37 (by decide) ?_
          refine v_lv (lv2 := [(3, .int (nI (i_4 + 1))), (2, .int ((x_4_2 + 0))), (0, .ref (A (40, 0))), (1, .int (x))]) [0, 1, 2, 3] rfl ?_
          exact ih (i_4 + 1) ((x_4_2 + 0)) (by (try simp only [Int32.le_iff_toInt_le, Int32.lt_iff_toInt_lt, ← Int32.toInt_inj, vp_in_iff, Int32.reduceToInt] at c_1 c_2 hq_4 hr_4 hu hg hf ⊢) <;> omega) (by omega)  (by rw [eV_4, VL_X12_partsIn_4, if_neg c_1, if_neg c_2])
        · skip
          refine v_aload_n (pc := 23) C dX12_partsIn_23 2 rfl rfl ?_
          refine v_iload_n (pc := 24) C dX12_partsIn_24 0 rfl rfl ?_
          refine v_callV (pc := 25) C (40, 0) ck_40 rfl (c_X12_partsOf hG (nI i_4) hu0 hu hg0 hg hf0 hf (by (try simp only [Int32.le_iff_toInt_le, Int32.lt_iff_toInt_lt, ← Int32.toInt_inj, Int32.reduceToInt] at c_1 c_2 hq_4 hr_4 hu hg hf ⊢); omega) (by (try simp only [Int32.le_iff_toInt_le, Int32.lt_iff_toInt_lt, ← Int32.toInt_inj, Int32.reduceToInt] at c_1 c_2 hq_4 hr_4 hu hg hf ⊢); omega)) 1 wd_1628 wd_68 wd_1625 wd_1627 wd_48 (by decide +kernel) (by decide) (by decide) rfl ([.int (x_4_2)]) rfl (Nat.le_of_ble_eq_true rfl) (by decide) dX12_partsIn_25 (fun _ _ _ q => q.elim) (fun v9 A9 h9 hR9 => ?_)
          obtain ⟨rfl, hA9, rfl⟩ := hR9
          obtain rfl := hA9.symm
          refine v_st (k2 := 0) (n2 := 0) (st2 := [.int ((V_X12_partsOf g (nI i_4))), .int (x_4_2)]) rfl rfl rfl ?_
          refine v_goto (tgt := 32) (pc := 28) C dX12_partsIn_28 (by decide) ?_
          refine v_iadd (pc := 32) C dX12_partsIn_32 ?_
          refine v_istore_n (lv2 := [(2, .int ((x_4_2 + (V_X12_partsOf g (nI i_4))))), (3, .int (nI i_4)), (0, .ref (A (40, 0))), (1, .int (x))]) (pc := 33) C dX12_partsIn_33 rfl (by decide) rfl ?_
          refine v_iinc (v := nI (i_4 + 1)) (lv2 := [(3, .int (nI (i_4 + 1))), (2, .int ((x_4_2 + (V_X12_partsOf g (nI i_4))))), (0, .ref (A (40, 0))), (1, .int (x))]) (pc := 34) C dX12_partsIn_34 1 rfl (nI_1 _) (by decide) rfl ?_
          refine v_goto (tgt := 4) (pc := 37) C dX12_partsIn_37 (by decide) ?_
          refine v_lv (lv2 := [(3, .int (nI (i_4 + 1))), (2, .int ((x_4_2 + (V_X12_partsOf g (nI i_4))))), (0, .ref (A (40, 0))), (1, .int (x))]) [0, 1, 2, 3] rfl ?_
          exact ih (i_4 + 1) ((x_4_2 + (V_X12_partsOf g (nI i_4)))) (by (try simp only [Int32.le_iff_toInt_le, Int32.lt_iff_toInt_lt, ← Int32.toInt_inj, vp_in_iff, Int32.reduceToInt] at c_1 c_2 hq_4 hr_4 hu hg hf ⊢) <;> omega) (by omega)  (by rw [eV_4, VL_X12_partsIn_4, if_neg c_1, if_pos c_2])
  exact L_4 (20 + 1) 0 (0) (by omega) (by omega)  (by rw [V_X12_partsIn])
def V_X12_parts (g : vS) (x : Int32) : Int32 := (if (V_X12_isGroup g (x)) = 0 then 0 else (V_X12_partsIn (S_X12_isWrong g (0)) (x)))
def S_X12_parts (g : vS) (x : Int32) : vS := (if (V_X12_isGroup g (x)) = 0 then (S_X12_isWrong g (1)) else (S_X12_isWrong g (0)))
theorem F_X12_parts {g : vS} {x : Int32} {c i j : Nat} (h1 : c ≠ 1) : S_X12_parts g x c i j = g c i j := by
  unfold S_X12_parts
  (repeat' split) <;> first | rfl | ((simp only [s3_k h1, F_X12_isWrong h1]) <;> first | done | rfl)
set_option maxHeartbeats 4000000 in
set_option maxRecDepth 100000 in
theorem c_X12_parts {G : vG} (hG : G.1.stackTraces = false) {A : vN → Nat} {g : vS} {r : vH} (x : Int32) (hu0 : 0 ≤ (g 2 0 0).toInt) (hu : (g 2 0 0).toInt ≤ 6) (hg0 : 0 ≤ (g 3 0 0).toInt) (hg : (g 3 0 0).toInt ≤ 5) (hf0 : 0 ≤ (g 4 0 0).toInt) (hf : (g 4 0 0).toInt ≤ 20) : vCt G yX12_parts cX12_parts 2 (some .int) 2 [.ref (A (40, 0)), .int (x)] A (wm g r) (fun v A2 h2 => v = some (.int (V_X12_parts g x)) ∧ A2 = A ∧ h2 = wm (S_X12_parts g x) r) (vNoX) 0 0 := by
  refine v_of hG (by decide +kernel) (Nat.le_of_ble_eq_true rfl) (lv := [(0, .ref (A (40, 0))), (1, .int (x))]) rfl (fun X C hnx => ?_)
  have C : vC G X cX12_parts 2 RX12 (some .int) "parts" 2 0 0 := C
  refine v_aload_n (pc := 0) C dX12_parts_0 0 rfl rfl ?_
  refine v_aload_n (pc := 1) C dX12_parts_1 0 rfl rfl ?_
  refine v_iload_n (pc := 2) C dX12_parts_2 1 rfl rfl ?_
  refine v_callV (pc := 3) C (40, 0) ck_40 rfl (c_X12_isGroup hG (x) ) 1 wd_1547 wd_68 wd_1544 wd_1546 wd_37 (by decide +kernel) (by decide) (by decide) rfl ([.ref (A (40, 0))]) rfl (Nat.le_of_ble_eq_true rfl) (by decide) dX12_parts_3 (fun _ _ _ q => q.elim) (fun v9 A9 h9 hR9 => ?_)
  obtain ⟨rfl, hA9, rfl⟩ := hR9
  obtain rfl := hA9.symm
  refine v_st (k2 := 0) (n2 := 0) (st2 := [.int ((V_X12_isGroup g (x))), .ref (A (40, 0))]) rfl rfl rfl ?_
  have b_1 := ok_isGroup (g := g) (x := x) hg0
  refine v_if_eq (pc := 6) (tgt := 13) C dX12_parts_6 (by decide) (fun c_2 => ?_) (fun c_2 => ?_)
  · skip
    refine v_iconst (v := 1) (pc := 13) C dX12_parts_13 rfl ?_
    refine v_callV (pc := 14) C (40, 0) ck_40 rfl (c_X12_isWrong hG (1) ) 1 wd_1531 wd_68 wd_1528 wd_1530 wd_35 (by decide +kernel) (by decide) (by decide) rfl ([]) rfl (Nat.le_of_ble_eq_true rfl) (by decide) dX12_parts_14 (fun _ _ _ q => q.elim) (fun v9 A9 h9 hR9 => ?_)
    obtain ⟨rfl, hA9, rfl⟩ := hR9
    obtain rfl := hA9.symm
    refine v_st (k2 := 0) (n2 := 0) (st2 := [.int ((V_X12_isWrong g (1)))]) rfl rfl rfl ?_
    refine v_if_eq (pc := 17) (tgt := 24) C dX12_parts_17 (by decide) (fun c_3 => ?_) (fun c_3 => ?_)
    · skip
      exact absurd c_3 (fun q9 => ((show ¬ (1 : Int32) = 0 from by decide)) q9)
    · skip
      refine v_iconst (v := 0) (pc := 20) C dX12_parts_20 rfl ?_
      refine v_goto (tgt := 29) (pc := 21) C dX12_parts_21 (by decide) ?_
      exact v_iret (pc := 29) C (by decide) (by decide) dX12_parts_29 ⟨(congrArg (fun q => some (Value.int q)) (by show _ = _; rw [V_X12_parts, if_pos c_2])), rfl, (congrArg (fun q => wm q r) (by show _ = _; rw [S_X12_parts, if_pos c_2]))⟩
  · skip
    refine v_iconst (v := 0) (pc := 9) C dX12_parts_9 rfl ?_
    refine v_goto (tgt := 14) (pc := 10) C dX12_parts_10 (by decide) ?_
    refine v_callV (pc := 14) C (40, 0) ck_40 rfl (c_X12_isWrong hG (0) ) 1 wd_1531 wd_68 wd_1528 wd_1530 wd_35 (by decide +kernel) (by decide) (by decide) rfl ([]) rfl (Nat.le_of_ble_eq_true rfl) (by decide) dX12_parts_14 (fun _ _ _ q => q.elim) (fun v9 A9 h9 hR9 => ?_)
    obtain ⟨rfl, hA9, rfl⟩ := hR9
    obtain rfl := hA9.symm
    refine v_st (k2 := 0) (n2 := 0) (st2 := [.int ((V_X12_isWrong g (0)))]) rfl rfl rfl ?_
    refine v_if_eq (pc := 17) (tgt := 24) C dX12_parts_17 (by decide) (fun c_4 => ?_) (fun c_4 => ?_)
    · skip
      refine v_aload_n (pc := 24) C dX12_parts_24 0 rfl rfl ?_
      refine v_iload_n (pc := 25) C dX12_parts_25 1 rfl rfl ?_
      refine v_callV (pc := 26) C (40, 0) ck_40 rfl (c_X12_partsIn hG (x) (by rw [show (S_X12_isWrong g (0)) 2 0 0 = g 2 0 0 from F_X12_isWrong (by decide)]; exact hu0) (by rw [show (S_X12_isWrong g (0)) 2 0 0 = g 2 0 0 from F_X12_isWrong (by decide)]; exact hu) (by rw [show (S_X12_isWrong g (0)) 3 0 0 = g 3 0 0 from F_X12_isWrong (by decide)]; exact hg0) (by rw [show (S_X12_isWrong g (0)) 3 0 0 = g 3 0 0 from F_X12_isWrong (by decide)]; exact hg) (by rw [show (S_X12_isWrong g (0)) 4 0 0 = g 4 0 0 from F_X12_isWrong (by decide)]; exact hf0) (by rw [show (S_X12_isWrong g (0)) 4 0 0 = g 4 0 0 from F_X12_isWrong (by decide)]; exact hf)) 1 wd_1624 wd_68 wd_1621 wd_1623 wd_47 (by decide +kernel) (by decide) (by decide) rfl ([]) rfl (Nat.le_of_ble_eq_true rfl) (by decide) dX12_parts_26 (fun _ _ _ q => q.elim) (fun v9 A9 h9 hR9 => ?_)
      obtain ⟨rfl, hA9, rfl⟩ := hR9
      obtain rfl := hA9.symm
      refine v_st (k2 := 0) (n2 := 0) (st2 := [.int ((V_X12_partsIn (S_X12_isWrong g (0)) (x)))]) rfl rfl rfl ?_
      exact v_iret (pc := 29) C (by decide) (by decide) dX12_parts_29 ⟨(congrArg (fun q => some (Value.int q)) (by show _ = _; rw [V_X12_parts, if_neg c_2])), rfl, (congrArg (fun q => wm q r) (by show _ = _; rw [S_X12_parts, if_neg c_2]))⟩
    · skip
      exact absurd c_4 (fun q9 => q9 ((show (0 : Int32) = 0 from rfl)))
def V_X12_status (g : vS) (x : Int32) : Int32 := (if (V_X12_isFile g (x)) = 0 then 0 else (if (g 68 (x).toNatClampNeg 0) = 0 then (if (V_X12_isSpoiled (S_X12_isWrong g (0)) (x)) = 0 then 111 else 115) else 120))
def S_X12_status (g : vS) (x : Int32) : vS := (if (V_X12_isFile g (x)) = 0 then (S_X12_isWrong g (1)) else (S_X12_isWrong g (0)))
theorem F_X12_status {g : vS} {x : Int32} {c i j : Nat} (h1 : c ≠ 1) : S_X12_status g x c i j = g c i j := by
  unfold S_X12_status
  (repeat' split) <;> first | rfl | ((simp only [s3_k h1, F_X12_isWrong h1]) <;> first | done | rfl)
set_option maxHeartbeats 4000000 in
set_option maxRecDepth 100000 in
theorem c_X12_status {G : vG} (hG : G.1.stackTraces = false) {A : vN → Nat} {g : vS} {r : vH} (x : Int32) (hu0 : 0 ≤ (g 2 0 0).toInt) (hu : (g 2 0 0).toInt ≤ 6) (hg0 : 0 ≤ (g 3 0 0).toInt) (hg : (g 3 0 0).toInt ≤ 5) (hf0 : 0 ≤ (g 4 0 0).toInt) (hf : (g 4 0 0).toInt ≤ 20) : vCt G yX12_status cX12_status 2 (some .char) 4 [.ref (A (40, 0)), .int (x)] A (wm g r) (fun v A2 h2 => v = some (.int (V_X12_status g x)) ∧ A2 = A ∧ h2 = wm (S_X12_status g x) r) (vNoX) 0 0 := by
  refine v_of hG (by decide +kernel) (Nat.le_of_ble_eq_true rfl) (lv := [(0, .ref (A (40, 0))), (1, .int (x))]) rfl (fun X C hnx => ?_)
  have C : vC G X cX12_status 2 RX12 (some .char) "status" 4 0 0 := C
  refine v_aload_n (pc := 0) C dX12_status_0 0 rfl rfl ?_
  refine v_aload_n (pc := 1) C dX12_status_1 0 rfl rfl ?_
  refine v_iload_n (pc := 2) C dX12_status_2 1 rfl rfl ?_
  refine v_callV (pc := 3) C (40, 0) ck_40 rfl (c_X12_isFile hG (x) ) 1 wd_1613 wd_68 wd_1610 wd_1612 wd_45 (by decide +kernel) (by decide) (by decide) rfl ([.ref (A (40, 0))]) rfl (Nat.le_of_ble_eq_true rfl) (by decide) dX12_status_3 (fun _ _ _ q => q.elim) (fun v9 A9 h9 hR9 => ?_)
  obtain ⟨rfl, hA9, rfl⟩ := hR9
  obtain rfl := hA9.symm
  refine v_st (k2 := 0) (n2 := 0) (st2 := [.int ((V_X12_isFile g (x))), .ref (A (40, 0))]) rfl rfl rfl ?_
  have b_1 := ok_isFile (g := g) (x := x) hf0
  refine v_if_eq (pc := 6) (tgt := 13) C dX12_status_6 (by decide) (fun c_2 => ?_) (fun c_2 => ?_)
  · skip
    refine v_iconst (v := 1) (pc := 13) C dX12_status_13 rfl ?_
    refine v_callV (pc := 14) C (40, 0) ck_40 rfl (c_X12_isWrong hG (1) ) 1 wd_1531 wd_68 wd_1528 wd_1530 wd_35 (by decide +kernel) (by decide) (by decide) rfl ([]) rfl (Nat.le_of_ble_eq_true rfl) (by decide) dX12_status_14 (fun _ _ _ q => q.elim) (fun v9 A9 h9 hR9 => ?_)
    obtain ⟨rfl, hA9, rfl⟩ := hR9
    obtain rfl := hA9.symm
    refine v_st (k2 := 0) (n2 := 0) (st2 := [.int ((V_X12_isWrong g (1)))]) rfl rfl rfl ?_
    refine v_if_eq (pc := 17) (tgt := 22) C dX12_status_17 (by decide) (fun c_3 => ?_) (fun c_3 => ?_)
    · skip
      exact absurd c_3 (fun q9 => ((show ¬ (1 : Int32) = 0 from by decide)) q9)
    · skip
      refine v_iconst (v := 0) (pc := 20) C dX12_status_20 rfl ?_
      exact v_zret (pc := 21) C rfl (by decide) (by decide) dX12_status_21 ⟨(congrArg (fun q => some (Value.int q)) (by show _ = _; rw [V_X12_status, if_pos c_2])), rfl, (congrArg (fun q => wm q r) (by show _ = _; rw [S_X12_status, if_pos c_2]))⟩
  · skip
    refine v_iconst (v := 0) (pc := 9) C dX12_status_9 rfl ?_
    refine v_goto (tgt := 14) (pc := 10) C dX12_status_10 (by decide) ?_
    refine v_callV (pc := 14) C (40, 0) ck_40 rfl (c_X12_isWrong hG (0) ) 1 wd_1531 wd_68 wd_1528 wd_1530 wd_35 (by decide +kernel) (by decide) (by decide) rfl ([]) rfl (Nat.le_of_ble_eq_true rfl) (by decide) dX12_status_14 (fun _ _ _ q => q.elim) (fun v9 A9 h9 hR9 => ?_)
    obtain ⟨rfl, hA9, rfl⟩ := hR9
    obtain rfl := hA9.symm
    refine v_st (k2 := 0) (n2 := 0) (st2 := [.int ((V_X12_isWrong g (0)))]) rfl rfl rfl ?_
    refine v_if_eq (pc := 17) (tgt := 22) C dX12_status_17 (by decide) (fun c_4 => ?_) (fun c_4 => ?_)
    · skip
      refine v_aload_n (pc := 22) C dX12_status_22 0 rfl rfl ?_
      refine v_get (pc := 23) C (40, 0) (v := .ref (A (68, 0))) ck_40 rfl 23 (by decide) inX12 wd_1411 rfl rfl dX12_status_23 ?_
      refine v_iload_n (pc := 26) C dX12_status_26 1 rfl rfl ?_
      refine v_zald (pc := 27) C (68, 0) (v := (g 68 (x).toNatClampNeg 0)) ck_68 (by (try simp only [Int32.le_iff_toInt_le, Int32.lt_iff_toInt_lt, ← Int32.toInt_inj, vp_in_iff, Int32.reduceToInt] at c_2 c_4 b_1 hu hg hf ⊢) <;> omega) (F_X12_isWrong (by decide)) dX12_status_27 ?_
      refine v_if_eq (pc := 28) (tgt := 36) C dX12_status_28 (by decide) (fun c_5 => ?_) (fun c_5 => ?_)
      · skip
        refine v_aload_n (pc := 36) C dX12_status_36 0 rfl rfl ?_
        refine v_iload_n (pc := 37) C dX12_status_37 1 rfl rfl ?_
        refine v_callV (pc := 38) C (40, 0) ck_40 rfl (c_X12_isSpoiled hG (x) (by rw [show (S_X12_isWrong g (0)) 2 0 0 = g 2 0 0 from F_X12_isWrong (by decide)]; exact hu0) (by rw [show (S_X12_isWrong g (0)) 2 0 0 = g 2 0 0 from F_X12_isWrong (by decide)]; exact hu) (by rw [show (S_X12_isWrong g (0)) 3 0 0 = g 3 0 0 from F_X12_isWrong (by decide)]; exact hg0) (by rw [show (S_X12_isWrong g (0)) 3 0 0 = g 3 0 0 from F_X12_isWrong (by decide)]; exact hg) (by rw [show (S_X12_isWrong g (0)) 4 0 0 = g 4 0 0 from F_X12_isWrong (by decide)]; exact hf0) (by rw [show (S_X12_isWrong g (0)) 4 0 0 = g 4 0 0 from F_X12_isWrong (by decide)]; exact hf) (by (try simp only [Int32.le_iff_toInt_le, Int32.lt_iff_toInt_lt, ← Int32.toInt_inj, Int32.reduceToInt] at c_2 c_4 c_5 b_1 hu hg hf ⊢); omega) (by (try simp only [Int32.le_iff_toInt_le, Int32.lt_iff_toInt_lt, ← Int32.toInt_inj, Int32.reduceToInt] at c_2 c_4 c_5 b_1 hu hg hf ⊢); omega)) 1 wd_1570 wd_68 wd_1567 wd_1569 wd_40 (by decide +kernel) (by decide) (by decide) rfl ([]) rfl (Nat.le_of_ble_eq_true rfl) (by decide) dX12_status_38 (fun _ _ _ q => q.elim) (fun v9 A9 h9 hR9 => ?_)
        obtain ⟨rfl, hA9, rfl⟩ := hR9
        obtain rfl := hA9.symm
        refine v_st (k2 := 0) (n2 := 0) (st2 := [.int ((V_X12_isSpoiled (S_X12_isWrong g (0)) (x)))]) rfl rfl rfl ?_
        refine v_if_eq (pc := 41) (tgt := 49) C dX12_status_41 (by decide) (fun c_6 => ?_) (fun c_6 => ?_)
        · skip
          refine v_bipush (v := 111) (pc := 49) C dX12_status_49 (by decide) ?_
          exact v_zret (pc := 51) C rfl (by decide) (by decide) dX12_status_51 ⟨(congrArg (fun q => some (Value.int q)) (by show _ = _; rw [V_X12_status, if_neg c_2, if_pos c_5, if_pos c_6])), rfl, (congrArg (fun q => wm q r) (by show _ = _; rw [S_X12_status, if_neg c_2]))⟩
        · skip
          refine v_bipush (v := 115) (pc := 44) C dX12_status_44 (by decide) ?_
          refine v_goto (tgt := 51) (pc := 46) C dX12_status_46 (by decide) ?_
          exact v_zret (pc := 51) C rfl (by decide) (by decide) dX12_status_51 ⟨(congrArg (fun q => some (Value.int q)) (by show _ = _; rw [V_X12_status, if_neg c_2, if_pos c_5, if_neg c_6])), rfl, (congrArg (fun q => wm q r) (by show _ = _; rw [S_X12_status, if_neg c_2]))⟩
      · skip
        refine v_bipush (v := 120) (pc := 31) C dX12_status_31 (by decide) ?_
        refine v_goto (tgt := 51) (pc := 33) C dX12_status_33 (by decide) ?_
        exact v_zret (pc := 51) C rfl (by decide) (by decide) dX12_status_51 ⟨(congrArg (fun q => some (Value.int q)) (by show _ = _; rw [V_X12_status, if_neg c_2, if_neg c_5])), rfl, (congrArg (fun q => wm q r) (by show _ = _; rw [S_X12_status, if_neg c_2]))⟩
    · skip
      exact absurd c_4 (fun q9 => q9 ((show (0 : Int32) = 0 from rfl)))
def V_X12_leaf (g : vS) (x : Int32) : Int32 := (if (V_X12_isBetween g (x) (0) (((g 11 0 0) - 1))) = 0 then 0 else (g 73 (x).toNatClampNeg 0))
def S_X12_leaf (g : vS) (x : Int32) : vS := (if (V_X12_isBetween g (x) (0) (((g 11 0 0) - 1))) = 0 then (S_X12_isWrong g (1)) else (S_X12_isWrong g (0)))
theorem F_X12_leaf {g : vS} {x : Int32} {c i j : Nat} (h1 : c ≠ 1) : S_X12_leaf g x c i j = g c i j := by
  unfold S_X12_leaf
  (repeat' split) <;> first | rfl | ((simp only [s3_k h1, F_X12_isWrong h1]) <;> first | done | rfl)
set_option maxHeartbeats 4000000 in
set_option maxRecDepth 100000 in
theorem c_X12_leaf {G : vG} (hG : G.1.stackTraces = false) {A : vN → Nat} {g : vS} {r : vH} (x : Int32) (hu0 : 0 ≤ (g 2 0 0).toInt) (hu : (g 2 0 0).toInt ≤ 6) (hg0 : 0 ≤ (g 3 0 0).toInt) (hg : (g 3 0 0).toInt ≤ 5) (hf0 : 0 ≤ (g 4 0 0).toInt) (hf : (g 4 0 0).toInt ≤ 20) (hl0 : 0 ≤ (g 11 0 0).toInt) (hl : (g 11 0 0).toInt ≤ 300) : vCt G yX12_leaf cX12_leaf 2 (some .int) 1 [.ref (A (40, 0)), .int (x)] A (wm g r) (fun v A2 h2 => v = some (.int (V_X12_leaf g x)) ∧ A2 = A ∧ h2 = wm (S_X12_leaf g x) r) (vNoX) 0 0 := by
  refine v_of hG (by decide +kernel) (Nat.le_of_ble_eq_true rfl) (lv := [(0, .ref (A (40, 0))), (1, .int (x))]) rfl (fun X C hnx => ?_)
  have C : vC G X cX12_leaf 2 RX12 (some .int) "leaf" 1 0 0 := C
  refine v_aload_n (pc := 0) C dX12_leaf_0 0 rfl rfl ?_
  refine v_iload_n (pc := 1) C dX12_leaf_1 1 rfl rfl ?_
  refine v_iconst (v := 0) (pc := 2) C dX12_leaf_2 rfl ?_
  refine v_aload_n (pc := 3) C dX12_leaf_3 0 rfl rfl ?_
  refine v_get (pc := 4) C (40, 0) (v := .int ((g 11 0 0))) ck_40 rfl 36 (by decide) inX12 wd_1424 rfl rfl dX12_leaf_4 ?_
  refine v_iconst (v := 1) (pc := 7) C dX12_leaf_7 rfl ?_
  refine v_isub (pc := 8) C dX12_leaf_8 ?_
  refine v_callS (pc := 9) C (c_X12_isBetween hG (x) (0) (((g 11 0 0) - 1)) ) 3 wd_1527 wd_68 wd_1525 wd_1526 (by decide +kernel) (by decide) (by decide) rfl ([.ref (A (40, 0))]) rfl (Nat.le_of_ble_eq_true rfl) (by decide) dX12_leaf_9 (fun _ _ _ q => q.elim) (fun v9 A9 h9 hR9 => ?_)
  obtain ⟨rfl, hA9, rfl⟩ := hR9
  obtain rfl := hA9.symm
  refine v_st (k2 := 0) (n2 := 0) (st2 := [.int ((V_X12_isBetween g (x) (0) (((g 11 0 0) - 1)))), .ref (A (40, 0))]) rfl rfl rfl ?_
  have b_1 := ok_btw (g := g) (x := x) (a := 0) (b := ((g 11 0 0) - 1))
  have b_2 : (((g 11 0 0) - 1)).toInt = (g 11 0 0).toInt - 1 := i32_sub1 hl0
  refine v_if_eq (pc := 12) (tgt := 19) C dX12_leaf_12 (by decide) (fun c_3 => ?_) (fun c_3 => ?_)
  · skip
    refine v_iconst (v := 1) (pc := 19) C dX12_leaf_19 rfl ?_
    refine v_callV (pc := 20) C (40, 0) ck_40 rfl (c_X12_isWrong hG (1) ) 1 wd_1531 wd_68 wd_1528 wd_1530 wd_35 (by decide +kernel) (by decide) (by decide) rfl ([]) rfl (Nat.le_of_ble_eq_true rfl) (by decide) dX12_leaf_20 (fun _ _ _ q => q.elim) (fun v9 A9 h9 hR9 => ?_)
    obtain ⟨rfl, hA9, rfl⟩ := hR9
    obtain rfl := hA9.symm
    refine v_st (k2 := 0) (n2 := 0) (st2 := [.int ((V_X12_isWrong g (1)))]) rfl rfl rfl ?_
    refine v_if_eq (pc := 23) (tgt := 30) C dX12_leaf_23 (by decide) (fun c_4 => ?_) (fun c_4 => ?_)
    · skip
      exact absurd c_4 (fun q9 => ((show ¬ (1 : Int32) = 0 from by decide)) q9)
    · skip
      refine v_iconst (v := 0) (pc := 26) C dX12_leaf_26 rfl ?_
      refine v_goto (tgt := 36) (pc := 27) C dX12_leaf_27 (by decide) ?_
      exact v_iret (pc := 36) C (by decide) (by decide) dX12_leaf_36 ⟨(congrArg (fun q => some (Value.int q)) (by show _ = _; rw [V_X12_leaf, if_pos c_3])), rfl, (congrArg (fun q => wm q r) (by show _ = _; rw [S_X12_leaf, if_pos c_3]))⟩
  · skip
    refine v_iconst (v := 0) (pc := 15) C dX12_leaf_15 rfl ?_
    refine v_goto (tgt := 20) (pc := 16) C dX12_leaf_16 (by decide) ?_
    refine v_callV (pc := 20) C (40, 0) ck_40 rfl (c_X12_isWrong hG (0) ) 1 wd_1531 wd_68 wd_1528 wd_1530 wd_35 (by decide +kernel) (by decide) (by decide) rfl ([]) rfl (Nat.le_of_ble_eq_true rfl) (by decide) dX12_leaf_20 (fun _ _ _ q => q.elim) (fun v9 A9 h9 hR9 => ?_)
    obtain ⟨rfl, hA9, rfl⟩ := hR9
    obtain rfl := hA9.symm
    refine v_st (k2 := 0) (n2 := 0) (st2 := [.int ((V_X12_isWrong g (0)))]) rfl rfl rfl ?_
    refine v_if_eq (pc := 23) (tgt := 30) C dX12_leaf_23 (by decide) (fun c_5 => ?_) (fun c_5 => ?_)
    · skip
      refine v_aload_n (pc := 30) C dX12_leaf_30 0 rfl rfl ?_
      refine v_get (pc := 31) C (40, 0) (v := .ref (A (73, 0))) ck_40 rfl 35 (by decide) inX12 wd_1423 rfl rfl dX12_leaf_31 ?_
      refine v_iload_n (pc := 34) C dX12_leaf_34 1 rfl rfl ?_
      refine v_iald (pc := 35) C (73, 0) (v := (g 73 (x).toNatClampNeg 0)) ck_73 (by (try simp only [Int32.le_iff_toInt_le, Int32.lt_iff_toInt_lt, ← Int32.toInt_inj, vp_in_iff, Int32.reduceToInt] at c_3 c_5 b_1 b_2 hu hg hf hl0 hl ⊢) <;> omega) (F_X12_isWrong (by decide)) dX12_leaf_35 ?_
      exact v_iret (pc := 36) C (by decide) (by decide) dX12_leaf_36 ⟨(congrArg (fun q => some (Value.int q)) (by show _ = _; rw [V_X12_leaf, if_neg c_3])), rfl, (congrArg (fun q => wm q r) (by show _ = _; rw [S_X12_leaf, if_neg c_3]))⟩
    · skip
      exact absurd c_5 (fun q9 => q9 ((show (0 : Int32) = 0 from rfl)))
def VL_X12_isKept_5 (g : vS) (x : Int32) (y : Int32) : Nat → Nat → Int32 → Int32
  | 0, _, _ => 0
  | n + 1, i_5, x_5_3 => (if (g 5 0 0) ≤ nI i_5 then x_5_3 else (if (g 69 i_5 0) = x then (if (g 70 i_5 0) = y then (VL_X12_isKept_5 g x y n (i_5 + 1) ((x_5_3 ||| 1))) else (VL_X12_isKept_5 g x y n (i_5 + 1) ((x_5_3 ||| 0)))) else (VL_X12_isKept_5 g x y n (i_5 + 1) ((x_5_3 ||| 0)))))
def V_X12_isKept (g : vS) (x : Int32) (y : Int32) : Int32 := (VL_X12_isKept_5 g x y (60 + 1) 0 (0))
set_option maxHeartbeats 4000000 in
set_option maxRecDepth 100000 in
theorem c_X12_isKept {G : vG} (hG : G.1.stackTraces = false) {A : vN → Nat} {g : vS} {r : vH} (x : Int32) (y : Int32) (hu0 : 0 ≤ (g 2 0 0).toInt) (hu : (g 2 0 0).toInt ≤ 6) (hg0 : 0 ≤ (g 3 0 0).toInt) (hg : (g 3 0 0).toInt ≤ 5) (hf0 : 0 ≤ (g 4 0 0).toInt) (hf : (g 4 0 0).toInt ≤ 20) (hw0 : 0 ≤ (g 5 0 0).toInt) (hw : (g 5 0 0).toInt ≤ 60) : vCt G yX12_isKept cX12_isKept 5 (some .boolean) 0 [.ref (A (40, 0)), .int (x), .int (y)] A (wm g r) (fun v A2 h2 => v = some (.int (V_X12_isKept g x y)) ∧ A2 = A ∧ h2 = wm g r) (vNoX) 0 0 := by
  refine v_of hG (by decide +kernel) (Nat.le_of_ble_eq_true rfl) (lv := [(0, .ref (A (40, 0))), (1, .int (x)), (2, .int (y))]) rfl (fun X C hnx => ?_)
  have C : vC G X cX12_isKept 5 RX12 (some .boolean) "isKept" 0 0 0 := C
  refine v_iconst (v := 0) (pc := 0) C dX12_isKept_0 rfl ?_
  refine v_istore_n (lv2 := [(3, .int (0)), (0, .ref (A (40, 0))), (1, .int (x)), (2, .int (y))]) (pc := 1) C dX12_isKept_1 rfl (by decide) rfl ?_
  refine v_iconst (v := 0) (pc := 2) C dX12_isKept_2 rfl ?_
  refine v_istore (lv2 := [(4, .int (0)), (3, .int (0)), (0, .ref (A (40, 0))), (1, .int (x)), (2, .int (y))]) (pc := 3) C dX12_isKept_3 (by decide) rfl ?_
  have L_5 : ∀ (n : Nat) (i_5 : Nat) (x_5_3 : Int32), i_5 ≤ 60 → 60 + 1 ≤ i_5 + n → x_5_3 = 0 ∨ x_5_3 = 1 → (V_X12_isKept g x y) = VL_X12_isKept_5 g x y n i_5 x_5_3 → V G 5 X A (wm g r) 0 0 (vM G X (fun v A2 h2 => v = some (.int (V_X12_isKept g x y)) ∧ A2 = A ∧ h2 = wm g r) (vNoX) 0 0) 5 [(4, .int (nI i_5)), (3, .int (x_5_3)), (0, .ref (A (40, 0))), (1, .int (x)), (2, .int (y))] [] := by
    intro n
    induction n with
    | zero => intro i_5 x_5_3 hi_5 hc_5 hz_5 eV_5; exact absurd hc_5 (by omega)
    | succ n ih =>
      intro i_5 x_5_3 hi_5 hc_5 hz_5 eV_5
      have hq_5 : (nI i_5).toInt = (i_5 : Int) := nI_toInt (by omega)
      have hr_5 : (nI (i_5 + 1)).toInt = ((i_5 + 1 : Nat) : Int) := nI_toInt (by omega)
      refine v_iload (pc := 5) C dX12_isKept_5 0 rfl ?_
      refine v_aload_n (pc := 7) C dX12_isKept_7 2 rfl rfl ?_
      refine v_get (pc := 8) C (40, 0) (v := .int ((g 5 0 0))) ck_40 rfl 29 (by decide) inX12 wd_1417 rfl rfl dX12_isKept_8 ?_
      refine v_icmp_ge (pc := 11) (tgt := 50) C dX12_isKept_11 (by decide) (fun c_1 => ?_) (fun c_1 => ?_)
      · skip
        refine v_iload_n (pc := 50) C dX12_isKept_50 1 rfl rfl ?_
        exact v_zret (pc := 51) C (nar_b hz_5) (by decide) (by decide) dX12_isKept_51 ⟨(congrArg (fun q => some (Value.int q)) (by show _ = _; rw [eV_5, VL_X12_isKept_5, if_pos c_1])), rfl, rfl⟩
      · skip
        refine v_iload_n (pc := 14) C dX12_isKept_14 1 rfl rfl ?_
        refine v_aload_n (pc := 15) C dX12_isKept_15 2 rfl rfl ?_
        refine v_get (pc := 16) C (40, 0) (v := .ref (A (69, 0))) ck_40 rfl 25 (by decide) inX12 wd_1413 rfl rfl dX12_isKept_16 ?_
        refine v_iload (pc := 19) C dX12_isKept_19 0 rfl ?_
        refine v_iald (pc := 21) C (69, 0) (v := (g 69 i_5 0)) ck_69 (by (try simp only [Int32.le_iff_toInt_le, Int32.lt_iff_toInt_lt, ← Int32.toInt_inj, vp_in_iff, Int32.reduceToInt] at c_1 hq_5 hr_5 hu hg hf hw0 hw ⊢) <;> omega) ((congrArg (fun k => g 69 k 0) (show (nI i_5 : Int32).toNatClampNeg = i_5 from (nI_clamp (by omega)))).trans rfl) dX12_isKept_21 ?_
        refine v_iload_n (pc := 22) C dX12_isKept_22 3 rfl rfl ?_
        refine v_icmp_ne (pc := 23) (tgt := 41) C dX12_isKept_23 (by decide) (fun c_2 => ?_) (fun c_2 => ?_)
        · skip
          refine v_iconst (v := 0) (pc := 41) C dX12_isKept_41 rfl ?_
          refine v_ior (pc := 42) C dX12_isKept_42 ?_
          refine v_istore_n (lv2 := [(3, .int ((x_5_3 ||| 0))), (4, .int (nI i_5)), (0, .ref (A (40, 0))), (1, .int (x)), (2, .int (y))]) (pc := 43) C dX12_isKept_43 rfl (by decide) rfl ?_
          refine v_iinc (v := nI (i_5 + 1)) (lv2 := [(4, .int (nI (i_5 + 1))), (3, .int ((x_5_3 ||| 0))), (0, .ref (A (40, 0))), (1, .int (x)), (2, .int (y))]) (pc := 44) C dX12_isKept_44 1 rfl (nI_1 _) (by decide) rfl ?_
          refine v_goto (tgt := 5) (pc := 47) C dX12_isKept_47 (by decide) ?_
          refine v_lv (lv2 := [(4, .int (nI (i_5 + 1))), (3, .int ((x_5_3 ||| 0))), (0, .ref (A (40, 0))), (1, .int (x)), (2, .int (y))]) [0, 1, 2, 3, 4] rfl ?_
          exact ih (i_5 + 1) ((x_5_3 ||| 0)) (by (try simp only [Int32.le_iff_toInt_le, Int32.lt_iff_toInt_lt, ← Int32.toInt_inj, vp_in_iff, Int32.reduceToInt] at c_1 c_2 hq_5 hr_5 hu hg hf hw0 hw ⊢) <;> omega) (by omega)  (or_bit0 hz_5) (by rw [eV_5, VL_X12_isKept_5, if_neg c_1, if_neg c_2])
        · skip
          refine v_aload_n (pc := 26) C dX12_isKept_26 2 rfl rfl ?_
          refine v_get (pc := 27) C (40, 0) (v := .ref (A (70, 0))) ck_40 rfl 26 (by decide) inX12 wd_1414 rfl rfl dX12_isKept_27 ?_
          refine v_iload (pc := 30) C dX12_isKept_30 0 rfl ?_
          refine v_iald (pc := 32) C (70, 0) (v := (g 70 i_5 0)) ck_70 (by (try simp only [Int32.le_iff_toInt_le, Int32.lt_iff_toInt_lt, ← Int32.toInt_inj, vp_in_iff, Int32.reduceToInt] at c_1 c_2 hq_5 hr_5 hu hg hf hw0 hw ⊢) <;> omega) ((congrArg (fun k => g 70 k 0) (show (nI i_5 : Int32).toNatClampNeg = i_5 from (nI_clamp (by omega)))).trans rfl) dX12_isKept_32 ?_
          refine v_iload_n (pc := 33) C dX12_isKept_33 4 rfl rfl ?_
          refine v_icmp_ne (pc := 34) (tgt := 41) C dX12_isKept_34 (by decide) (fun c_3 => ?_) (fun c_3 => ?_)
          · skip
            refine v_iconst (v := 0) (pc := 41) C dX12_isKept_41 rfl ?_
            refine v_ior (pc := 42) C dX12_isKept_42 ?_
            refine v_istore_n (lv2 := [(3, .int ((x_5_3 ||| 0))), (4, .int (nI i_5)), (0, .ref (A (40, 0))), (1, .int (x)), (2, .int (y))]) (pc := 43) C dX12_isKept_43 rfl (by decide) rfl ?_
            refine v_iinc (v := nI (i_5 + 1)) (lv2 := [(4, .int (nI (i_5 + 1))), (3, .int ((x_5_3 ||| 0))), (0, .ref (A (40, 0))), (1, .int (x)), (2, .int (y))]) (pc := 44) C dX12_isKept_44 1 rfl (nI_1 _) (by decide) rfl ?_
            refine v_goto (tgt := 5) (pc := 47) C dX12_isKept_47 (by decide) ?_
            refine v_lv (lv2 := [(4, .int (nI (i_5 + 1))), (3, .int ((x_5_3 ||| 0))), (0, .ref (A (40, 0))), (1, .int (x)), (2, .int (y))]) [0, 1, 2, 3, 4] rfl ?_
            exact ih (i_5 + 1) ((x_5_3 ||| 0)) (by (try simp only [Int32.le_iff_toInt_le, Int32.lt_iff_toInt_lt, ← Int32.toInt_inj, vp_in_iff, Int32.reduceToInt] at c_1 c_2 c_3 hq_5 hr_5 hu hg hf hw0 hw ⊢) <;> omega) (by omega)  (or_bit0 hz_5) (by rw [eV_5, VL_X12_isKept_5, if_neg c_1, if_pos c_2, if_neg c_3])
          · skip
            refine v_iconst (v := 1) (pc := 37) C dX12_isKept_37 rfl ?_
            refine v_goto (tgt := 42) (pc := 38) C dX12_isKept_38 (by decide) ?_
            refine v_ior (pc := 42) C dX12_isKept_42 ?_
            refine v_istore_n (lv2 := [(3, .int ((x_5_3 ||| 1))), (4, .int (nI i_5)), (0, .ref (A (40, 0))), (1, .int (x)), (2, .int (y))]) (pc := 43) C dX12_isKept_43 rfl (by decide) rfl ?_
            refine v_iinc (v := nI (i_5 + 1)) (lv2 := [(4, .int (nI (i_5 + 1))), (3, .int ((x_5_3 ||| 1))), (0, .ref (A (40, 0))), (1, .int (x)), (2, .int (y))]) (pc := 44) C dX12_isKept_44 1 rfl (nI_1 _) (by decide) rfl ?_
            refine v_goto (tgt := 5) (pc := 47) C dX12_isKept_47 (by decide) ?_
            refine v_lv (lv2 := [(4, .int (nI (i_5 + 1))), (3, .int ((x_5_3 ||| 1))), (0, .ref (A (40, 0))), (1, .int (x)), (2, .int (y))]) [0, 1, 2, 3, 4] rfl ?_
            exact ih (i_5 + 1) ((x_5_3 ||| 1)) (by (try simp only [Int32.le_iff_toInt_le, Int32.lt_iff_toInt_lt, ← Int32.toInt_inj, vp_in_iff, Int32.reduceToInt] at c_1 c_2 c_3 hq_5 hr_5 hu hg hf hw0 hw ⊢) <;> omega) (by omega)  (or_bit1 hz_5) (by rw [eV_5, VL_X12_isKept_5, if_neg c_1, if_pos c_2, if_pos c_3])
  exact L_5 (60 + 1) 0 (0) (by omega) (by omega)  (Or.inl rfl) (by rw [V_X12_isKept])
def V_X12_shown (g : vS) (x : Int32) : Int32 := (if x = 110 then (if x = 110 then (g 7 0 0) else (if x = 114 then (g 8 0 0) else (g 9 0 0))) else (if x = 114 then (if x = 110 then (g 7 0 0) else (if x = 114 then (g 8 0 0) else (g 9 0 0))) else (if x = 102 then (if x = 110 then (g 7 0 0) else (if x = 114 then (g 8 0 0) else (g 9 0 0))) else 0)))
def S_X12_shown (g : vS) (x : Int32) : vS := (if x = 110 then (S_X12_isWrong g (0)) else (if x = 114 then (S_X12_isWrong g (0)) else (if x = 102 then (S_X12_isWrong g (0)) else (S_X12_isWrong g (1)))))
theorem F_X12_shown {g : vS} {x : Int32} {c i j : Nat} (h1 : c ≠ 1) : S_X12_shown g x c i j = g c i j := by
  unfold S_X12_shown
  (repeat' split) <;> first | rfl | ((simp only [s3_k h1, F_X12_isWrong h1]) <;> first | done | rfl)
set_option maxHeartbeats 4000000 in
set_option maxRecDepth 100000 in
theorem c_X12_shown {G : vG} (hG : G.1.stackTraces = false) {A : vN → Nat} {g : vS} {r : vH} (x : Int32) (hu0 : 0 ≤ (g 2 0 0).toInt) (hu : (g 2 0 0).toInt ≤ 6) (hg0 : 0 ≤ (g 3 0 0).toInt) (hg : (g 3 0 0).toInt ≤ 5) (hf0 : 0 ≤ (g 4 0 0).toInt) (hf : (g 4 0 0).toInt ≤ 20) : vCt G yX12_shown cX12_shown 2 (some .int) 1 [.ref (A (40, 0)), .int (x)] A (wm g r) (fun v A2 h2 => v = some (.int (V_X12_shown g x)) ∧ A2 = A ∧ h2 = wm (S_X12_shown g x) r) (vNoX) 0 0 := by
  refine v_of hG (by decide +kernel) (Nat.le_of_ble_eq_true rfl) (lv := [(0, .ref (A (40, 0))), (1, .int (x))]) rfl (fun X C hnx => ?_)
  have C : vC G X cX12_shown 2 RX12 (some .int) "shown" 1 0 0 := C
  refine v_aload_n (pc := 0) C dX12_shown_0 0 rfl rfl ?_
  refine v_iload_n (pc := 1) C dX12_shown_1 1 rfl rfl ?_
  refine v_bipush (v := 110) (pc := 2) C dX12_shown_2 (by decide) ?_
  refine v_icmp_eq (pc := 4) (tgt := 19) C dX12_shown_4 (by decide) (fun c_1 => ?_) (fun c_1 => ?_)
  · skip
    refine v_iconst (v := 0) (pc := 19) C dX12_shown_19 rfl ?_
    refine v_goto (tgt := 24) (pc := 20) C dX12_shown_20 (by decide) ?_
    refine v_callV (pc := 24) C (40, 0) ck_40 rfl (c_X12_isWrong hG (0) ) 1 wd_1531 wd_68 wd_1528 wd_1530 wd_35 (by decide +kernel) (by decide) (by decide) rfl ([]) rfl (Nat.le_of_ble_eq_true rfl) (by decide) dX12_shown_24 (fun _ _ _ q => q.elim) (fun v9 A9 h9 hR9 => ?_)
    obtain ⟨rfl, hA9, rfl⟩ := hR9
    obtain rfl := hA9.symm
    refine v_st (k2 := 0) (n2 := 0) (st2 := [.int ((V_X12_isWrong g (0)))]) rfl rfl rfl ?_
    refine v_if_eq (pc := 27) (tgt := 34) C dX12_shown_27 (by decide) (fun c_2 => ?_) (fun c_2 => ?_)
    · skip
      refine v_iload_n (pc := 34) C dX12_shown_34 1 rfl rfl ?_
      refine v_bipush (v := 110) (pc := 35) C dX12_shown_35 (by decide) ?_
      refine v_icmp_ne (pc := 37) (tgt := 47) C dX12_shown_37 (by decide) (fun c_3 => ?_) (fun c_3 => ?_)
      · skip
        refine v_iload_n (pc := 47) C dX12_shown_47 1 rfl rfl ?_
        refine v_bipush (v := 114) (pc := 48) C dX12_shown_48 (by decide) ?_
        refine v_icmp_ne (pc := 50) (tgt := 60) C dX12_shown_50 (by decide) (fun c_4 => ?_) (fun c_4 => ?_)
        · skip
          refine v_aload_n (pc := 60) C dX12_shown_60 0 rfl rfl ?_
          refine v_get (pc := 61) C (40, 0) (v := .int ((g 9 0 0))) ck_40 rfl 33 (by decide) inX12 wd_1421 rfl (congrArg Value.int (F_X12_isWrong (by decide))) dX12_shown_61 ?_
          exact v_iret (pc := 64) C (by decide) (by decide) dX12_shown_64 ⟨(congrArg (fun q => some (Value.int q)) (by show _ = _; rw [V_X12_shown, if_pos c_1, if_neg c_3, if_neg c_4])), rfl, (congrArg (fun q => wm q r) (by show _ = _; rw [S_X12_shown, if_pos c_1]))⟩
        · skip
          refine v_aload_n (pc := 53) C dX12_shown_53 0 rfl rfl ?_
          refine v_get (pc := 54) C (40, 0) (v := .int ((g 8 0 0))) ck_40 rfl 32 (by decide) inX12 wd_1420 rfl (congrArg Value.int (F_X12_isWrong (by decide))) dX12_shown_54 ?_
          refine v_goto (tgt := 64) (pc := 57) C dX12_shown_57 (by decide) ?_
          exact v_iret (pc := 64) C (by decide) (by decide) dX12_shown_64 ⟨(congrArg (fun q => some (Value.int q)) (by show _ = _; rw [V_X12_shown, if_pos c_1, if_neg c_3, if_pos c_4])), rfl, (congrArg (fun q => wm q r) (by show _ = _; rw [S_X12_shown, if_pos c_1]))⟩
      · skip
        refine v_aload_n (pc := 40) C dX12_shown_40 0 rfl rfl ?_
        refine v_get (pc := 41) C (40, 0) (v := .int ((g 7 0 0))) ck_40 rfl 31 (by decide) inX12 wd_1419 rfl (congrArg Value.int (F_X12_isWrong (by decide))) dX12_shown_41 ?_
        refine v_goto (tgt := 64) (pc := 44) C dX12_shown_44 (by decide) ?_
        exact v_iret (pc := 64) C (by decide) (by decide) dX12_shown_64 ⟨(congrArg (fun q => some (Value.int q)) (by show _ = _; rw [V_X12_shown, if_pos c_1, if_pos c_3])), rfl, (congrArg (fun q => wm q r) (by show _ = _; rw [S_X12_shown, if_pos c_1]))⟩
    · skip
      exact absurd c_2 (fun q9 => q9 ((show (0 : Int32) = 0 from rfl)))
  · skip
    refine v_iload_n (pc := 7) C dX12_shown_7 1 rfl rfl ?_
    refine v_bipush (v := 114) (pc := 8) C dX12_shown_8 (by decide) ?_
    refine v_icmp_eq (pc := 10) (tgt := 19) C dX12_shown_10 (by decide) (fun c_5 => ?_) (fun c_5 => ?_)
    · skip
      refine v_iconst (v := 0) (pc := 19) C dX12_shown_19 rfl ?_
      refine v_goto (tgt := 24) (pc := 20) C dX12_shown_20 (by decide) ?_
      refine v_callV (pc := 24) C (40, 0) ck_40 rfl (c_X12_isWrong hG (0) ) 1 wd_1531 wd_68 wd_1528 wd_1530 wd_35 (by decide +kernel) (by decide) (by decide) rfl ([]) rfl (Nat.le_of_ble_eq_true rfl) (by decide) dX12_shown_24 (fun _ _ _ q => q.elim) (fun v9 A9 h9 hR9 => ?_)
      obtain ⟨rfl, hA9, rfl⟩ := hR9
      obtain rfl := hA9.symm
      refine v_st (k2 := 0) (n2 := 0) (st2 := [.int ((V_X12_isWrong g (0)))]) rfl rfl rfl ?_
      refine v_if_eq (pc := 27) (tgt := 34) C dX12_shown_27 (by decide) (fun c_6 => ?_) (fun c_6 => ?_)
      · skip
        refine v_iload_n (pc := 34) C dX12_shown_34 1 rfl rfl ?_
        refine v_bipush (v := 110) (pc := 35) C dX12_shown_35 (by decide) ?_
        refine v_icmp_ne (pc := 37) (tgt := 47) C dX12_shown_37 (by decide) (fun c_7 => ?_) (fun c_7 => ?_)
        · skip
          refine v_iload_n (pc := 47) C dX12_shown_47 1 rfl rfl ?_
          refine v_bipush (v := 114) (pc := 48) C dX12_shown_48 (by decide) ?_
          refine v_icmp_ne (pc := 50) (tgt := 60) C dX12_shown_50 (by decide) (fun c_8 => ?_) (fun c_8 => ?_)
          · skip
            refine v_aload_n (pc := 60) C dX12_shown_60 0 rfl rfl ?_
            refine v_get (pc := 61) C (40, 0) (v := .int ((g 9 0 0))) ck_40 rfl 33 (by decide) inX12 wd_1421 rfl (congrArg Value.int (F_X12_isWrong (by decide))) dX12_shown_61 ?_
            exact v_iret (pc := 64) C (by decide) (by decide) dX12_shown_64 ⟨(congrArg (fun q => some (Value.int q)) (by show _ = _; rw [V_X12_shown, if_neg c_1, if_pos c_5, if_neg c_7, if_neg c_8])), rfl, (congrArg (fun q => wm q r) (by show _ = _; rw [S_X12_shown, if_neg c_1, if_pos c_5]))⟩
          · skip
            refine v_aload_n (pc := 53) C dX12_shown_53 0 rfl rfl ?_
            refine v_get (pc := 54) C (40, 0) (v := .int ((g 8 0 0))) ck_40 rfl 32 (by decide) inX12 wd_1420 rfl (congrArg Value.int (F_X12_isWrong (by decide))) dX12_shown_54 ?_
            refine v_goto (tgt := 64) (pc := 57) C dX12_shown_57 (by decide) ?_
            exact v_iret (pc := 64) C (by decide) (by decide) dX12_shown_64 ⟨(congrArg (fun q => some (Value.int q)) (by show _ = _; rw [V_X12_shown, if_neg c_1, if_pos c_5, if_neg c_7, if_pos c_8])), rfl, (congrArg (fun q => wm q r) (by show _ = _; rw [S_X12_shown, if_neg c_1, if_pos c_5]))⟩
        · skip
          refine v_aload_n (pc := 40) C dX12_shown_40 0 rfl rfl ?_
          refine v_get (pc := 41) C (40, 0) (v := .int ((g 7 0 0))) ck_40 rfl 31 (by decide) inX12 wd_1419 rfl (congrArg Value.int (F_X12_isWrong (by decide))) dX12_shown_41 ?_
          refine v_goto (tgt := 64) (pc := 44) C dX12_shown_44 (by decide) ?_
          exact v_iret (pc := 64) C (by decide) (by decide) dX12_shown_64 ⟨(congrArg (fun q => some (Value.int q)) (by show _ = _; rw [V_X12_shown, if_neg c_1, if_pos c_5, if_pos c_7])), rfl, (congrArg (fun q => wm q r) (by show _ = _; rw [S_X12_shown, if_neg c_1, if_pos c_5]))⟩
      · skip
        exact absurd c_6 (fun q9 => q9 ((show (0 : Int32) = 0 from rfl)))
    · skip
      refine v_iload_n (pc := 13) C dX12_shown_13 1 rfl rfl ?_
      refine v_bipush (v := 102) (pc := 14) C dX12_shown_14 (by decide) ?_
      refine v_icmp_ne (pc := 16) (tgt := 23) C dX12_shown_16 (by decide) (fun c_9 => ?_) (fun c_9 => ?_)
      · skip
        refine v_iconst (v := 1) (pc := 23) C dX12_shown_23 rfl ?_
        refine v_callV (pc := 24) C (40, 0) ck_40 rfl (c_X12_isWrong hG (1) ) 1 wd_1531 wd_68 wd_1528 wd_1530 wd_35 (by decide +kernel) (by decide) (by decide) rfl ([]) rfl (Nat.le_of_ble_eq_true rfl) (by decide) dX12_shown_24 (fun _ _ _ q => q.elim) (fun v9 A9 h9 hR9 => ?_)
        obtain ⟨rfl, hA9, rfl⟩ := hR9
        obtain rfl := hA9.symm
        refine v_st (k2 := 0) (n2 := 0) (st2 := [.int ((V_X12_isWrong g (1)))]) rfl rfl rfl ?_
        refine v_if_eq (pc := 27) (tgt := 34) C dX12_shown_27 (by decide) (fun c_10 => ?_) (fun c_10 => ?_)
        · skip
          exact absurd c_10 (fun q9 => ((show ¬ (1 : Int32) = 0 from by decide)) q9)
        · skip
          refine v_iconst (v := 0) (pc := 30) C dX12_shown_30 rfl ?_
          refine v_goto (tgt := 64) (pc := 31) C dX12_shown_31 (by decide) ?_
          exact v_iret (pc := 64) C (by decide) (by decide) dX12_shown_64 ⟨(congrArg (fun q => some (Value.int q)) (by show _ = _; rw [V_X12_shown, if_neg c_1, if_neg c_5, if_neg c_9])), rfl, (congrArg (fun q => wm q r) (by show _ = _; rw [S_X12_shown, if_neg c_1, if_neg c_5, if_neg c_9]))⟩
      · skip
        refine v_iconst (v := 0) (pc := 19) C dX12_shown_19 rfl ?_
        refine v_goto (tgt := 24) (pc := 20) C dX12_shown_20 (by decide) ?_
        refine v_callV (pc := 24) C (40, 0) ck_40 rfl (c_X12_isWrong hG (0) ) 1 wd_1531 wd_68 wd_1528 wd_1530 wd_35 (by decide +kernel) (by decide) (by decide) rfl ([]) rfl (Nat.le_of_ble_eq_true rfl) (by decide) dX12_shown_24 (fun _ _ _ q => q.elim) (fun v9 A9 h9 hR9 => ?_)
        obtain ⟨rfl, hA9, rfl⟩ := hR9
        obtain rfl := hA9.symm
        refine v_st (k2 := 0) (n2 := 0) (st2 := [.int ((V_X12_isWrong g (0)))]) rfl rfl rfl ?_
        refine v_if_eq (pc := 27) (tgt := 34) C dX12_shown_27 (by decide) (fun c_11 => ?_) (fun c_11 => ?_)
        · skip
          refine v_iload_n (pc := 34) C dX12_shown_34 1 rfl rfl ?_
          refine v_bipush (v := 110) (pc := 35) C dX12_shown_35 (by decide) ?_
          refine v_icmp_ne (pc := 37) (tgt := 47) C dX12_shown_37 (by decide) (fun c_12 => ?_) (fun c_12 => ?_)
          · skip
            refine v_iload_n (pc := 47) C dX12_shown_47 1 rfl rfl ?_
            refine v_bipush (v := 114) (pc := 48) C dX12_shown_48 (by decide) ?_
            refine v_icmp_ne (pc := 50) (tgt := 60) C dX12_shown_50 (by decide) (fun c_13 => ?_) (fun c_13 => ?_)
            · skip
              refine v_aload_n (pc := 60) C dX12_shown_60 0 rfl rfl ?_
              refine v_get (pc := 61) C (40, 0) (v := .int ((g 9 0 0))) ck_40 rfl 33 (by decide) inX12 wd_1421 rfl (congrArg Value.int (F_X12_isWrong (by decide))) dX12_shown_61 ?_
              exact v_iret (pc := 64) C (by decide) (by decide) dX12_shown_64 ⟨(congrArg (fun q => some (Value.int q)) (by show _ = _; rw [V_X12_shown, if_neg c_1, if_neg c_5, if_pos c_9, if_neg c_12, if_neg c_13])), rfl, (congrArg (fun q => wm q r) (by show _ = _; rw [S_X12_shown, if_neg c_1, if_neg c_5, if_pos c_9]))⟩
            · skip
              refine v_aload_n (pc := 53) C dX12_shown_53 0 rfl rfl ?_
              refine v_get (pc := 54) C (40, 0) (v := .int ((g 8 0 0))) ck_40 rfl 32 (by decide) inX12 wd_1420 rfl (congrArg Value.int (F_X12_isWrong (by decide))) dX12_shown_54 ?_
              refine v_goto (tgt := 64) (pc := 57) C dX12_shown_57 (by decide) ?_
              exact v_iret (pc := 64) C (by decide) (by decide) dX12_shown_64 ⟨(congrArg (fun q => some (Value.int q)) (by show _ = _; rw [V_X12_shown, if_neg c_1, if_neg c_5, if_pos c_9, if_neg c_12, if_pos c_13])), rfl, (congrArg (fun q => wm q r) (by show _ = _; rw [S_X12_shown, if_neg c_1, if_neg c_5, if_pos c_9]))⟩
          · skip
            refine v_aload_n (pc := 40) C dX12_shown_40 0 rfl rfl ?_
            refine v_get (pc := 41) C (40, 0) (v := .int ((g 7 0 0))) ck_40 rfl 31 (by decide) inX12 wd_1419 rfl (congrArg Value.int (F_X12_isWrong (by decide))) dX12_shown_41 ?_
            refine v_goto (tgt := 64) (pc := 44) C dX12_shown_44 (by decide) ?_
            exact v_iret (pc := 64) C (by decide) (by decide) dX12_shown_64 ⟨(congrArg (fun q => some (Value.int q)) (by show _ = _; rw [V_X12_shown, if_neg c_1, if_neg c_5, if_pos c_9, if_pos c_12])), rfl, (congrArg (fun q => wm q r) (by show _ = _; rw [S_X12_shown, if_neg c_1, if_neg c_5, if_pos c_9]))⟩
        · skip
          exact absurd c_11 (fun q9 => q9 ((show (0 : Int32) = 0 from rfl)))
def VL_X12_collected_4 (g : vS)  : Nat → Nat → Int32 → Int32
  | 0, _, _ => 0
  | n + 1, i_4, x_4_1 => (if 8 < nI i_4 then x_4_1 else (if (g 74 i_4 0) < 0 then (VL_X12_collected_4 g n (i_4 + 1) ((x_4_1 + 0))) else (VL_X12_collected_4 g n (i_4 + 1) ((x_4_1 + 1)))))
def V_X12_collected (g : vS)  : Int32 := (VL_X12_collected_4 g (9 + 1) 1 (0))
set_option maxHeartbeats 4000000 in
set_option maxRecDepth 100000 in
theorem c_X12_collected {G : vG} (hG : G.1.stackTraces = false) {A : vN → Nat} {g : vS} {r : vH}   : vCt G yX12_collected cX12_collected 3 (some .int) 0 [.ref (A (40, 0))] A (wm g r) (fun v A2 h2 => v = some (.int (V_X12_collected g)) ∧ A2 = A ∧ h2 = wm g r) (vNoX) 0 0 := by
  refine v_of hG (by decide +kernel) (Nat.le_of_ble_eq_true rfl) (lv := [(0, .ref (A (40, 0)))]) rfl (fun X C hnx => ?_)
  have C : vC G X cX12_collected 3 RX12 (some .int) "collected" 0 0 0 := C
  refine v_iconst (v := 0) (pc := 0) C dX12_collected_0 rfl ?_
  refine v_istore_n (lv2 := [(1, .int (0)), (0, .ref (A (40, 0)))]) (pc := 1) C dX12_collected_1 rfl (by decide) rfl ?_
  refine v_iconst (v := 1) (pc := 2) C dX12_collected_2 rfl ?_
  refine v_istore_n (lv2 := [(2, .int (1)), (1, .int (0)), (0, .ref (A (40, 0)))]) (pc := 3) C dX12_collected_3 rfl (by decide) rfl ?_
  have L_4 : ∀ (n : Nat) (i_4 : Nat) (x_4_1 : Int32), i_4 ≤ 9 → 9 + 1 ≤ i_4 + n → (V_X12_collected g) = VL_X12_collected_4 g n i_4 x_4_1 → V G 3 X A (wm g r) 0 0 (vM G X (fun v A2 h2 => v = some (.int (V_X12_collected g)) ∧ A2 = A ∧ h2 = wm g r) (vNoX) 0 0) 4 [(2, .int (nI i_4)), (1, .int (x_4_1)), (0, .ref (A (40, 0)))] [] := by
    intro n
    induction n with
    | zero => intro i_4 x_4_1 hi_4 hc_4 eV_4; exact absurd hc_4 (by omega)
    | succ n ih =>
      intro i_4 x_4_1 hi_4 hc_4 eV_4
      have hq_4 : (nI i_4).toInt = (i_4 : Int) := nI_toInt (by omega)
      have hr_4 : (nI (i_4 + 1)).toInt = ((i_4 + 1 : Nat) : Int) := nI_toInt (by omega)
      refine v_iload_n (pc := 4) C dX12_collected_4 0 rfl rfl ?_
      refine v_bipush (v := 8) (pc := 5) C dX12_collected_5 (by decide) ?_
      refine v_icmp_gt (pc := 7) (tgt := 33) C dX12_collected_7 (by decide) (fun c_1 => ?_) (fun c_1 => ?_)
      · skip
        refine v_iload_n (pc := 33) C dX12_collected_33 1 rfl rfl ?_
        exact v_iret (pc := 34) C (by decide) (by decide) dX12_collected_34 ⟨(congrArg (fun q => some (Value.int q)) (by show _ = _; rw [eV_4, VL_X12_collected_4, if_pos c_1])), rfl, rfl⟩
      · skip
        refine v_iload_n (pc := 10) C dX12_collected_10 1 rfl rfl ?_
        refine v_aload_n (pc := 11) C dX12_collected_11 2 rfl rfl ?_
        refine v_get (pc := 12) C (40, 0) (v := .ref (A (74, 0))) ck_40 rfl 37 (by decide) inX12 wd_1425 rfl rfl dX12_collected_12 ?_
        refine v_iload_n (pc := 15) C dX12_collected_15 0 rfl rfl ?_
        refine v_iald (pc := 16) C (74, 0) (v := (g 74 i_4 0)) ck_74 (by (try simp only [Int32.le_iff_toInt_le, Int32.lt_iff_toInt_lt, ← Int32.toInt_inj, vp_in_iff, Int32.reduceToInt] at c_1 hq_4 hr_4 ⊢) <;> omega) ((congrArg (fun k => g 74 k 0) (show (nI i_4 : Int32).toNatClampNeg = i_4 from (nI_clamp (by omega)))).trans rfl) dX12_collected_16 ?_
        refine v_if_lt (pc := 17) (tgt := 24) C dX12_collected_17 (by decide) (fun c_2 => ?_) (fun c_2 => ?_)
        · skip
          refine v_iconst (v := 0) (pc := 24) C dX12_collected_24 rfl ?_
          refine v_iadd (pc := 25) C dX12_collected_25 ?_
          refine v_istore_n (lv2 := [(1, .int ((x_4_1 + 0))), (2, .int (nI i_4)), (0, .ref (A (40, 0)))]) (pc := 26) C dX12_collected_26 rfl (by decide) rfl ?_
          refine v_iinc (v := nI (i_4 + 1)) (lv2 := [(2, .int (nI (i_4 + 1))), (1, .int ((x_4_1 + 0))), (0, .ref (A (40, 0)))]) (pc := 27) C dX12_collected_27 1 rfl (nI_1 _) (by decide) rfl ?_
          refine v_goto (tgt := 4) (pc := 30) C dX12_collected_30 (by decide) ?_
          refine v_lv (lv2 := [(2, .int (nI (i_4 + 1))), (1, .int ((x_4_1 + 0))), (0, .ref (A (40, 0)))]) [0, 1, 2] rfl ?_
          exact ih (i_4 + 1) ((x_4_1 + 0)) (by (try simp only [Int32.le_iff_toInt_le, Int32.lt_iff_toInt_lt, ← Int32.toInt_inj, vp_in_iff, Int32.reduceToInt] at c_1 c_2 hq_4 hr_4 ⊢) <;> omega) (by omega)  (by rw [eV_4, VL_X12_collected_4, if_neg c_1, if_pos c_2])
        · skip
          refine v_iconst (v := 1) (pc := 20) C dX12_collected_20 rfl ?_
          refine v_goto (tgt := 25) (pc := 21) C dX12_collected_21 (by decide) ?_
          refine v_iadd (pc := 25) C dX12_collected_25 ?_
          refine v_istore_n (lv2 := [(1, .int ((x_4_1 + 1))), (2, .int (nI i_4)), (0, .ref (A (40, 0)))]) (pc := 26) C dX12_collected_26 rfl (by decide) rfl ?_
          refine v_iinc (v := nI (i_4 + 1)) (lv2 := [(2, .int (nI (i_4 + 1))), (1, .int ((x_4_1 + 1))), (0, .ref (A (40, 0)))]) (pc := 27) C dX12_collected_27 1 rfl (nI_1 _) (by decide) rfl ?_
          refine v_goto (tgt := 4) (pc := 30) C dX12_collected_30 (by decide) ?_
          refine v_lv (lv2 := [(2, .int (nI (i_4 + 1))), (1, .int ((x_4_1 + 1))), (0, .ref (A (40, 0)))]) [0, 1, 2] rfl ?_
          exact ih (i_4 + 1) ((x_4_1 + 1)) (by (try simp only [Int32.le_iff_toInt_le, Int32.lt_iff_toInt_lt, ← Int32.toInt_inj, vp_in_iff, Int32.reduceToInt] at c_1 c_2 hq_4 hr_4 ⊢) <;> omega) (by omega)  (by rw [eV_4, VL_X12_collected_4, if_neg c_1, if_neg c_2])
  exact L_4 (9 + 1) 1 (0) (by omega) (by omega)  (by rw [V_X12_collected])
def V_X12_collect (g : vS) (x : Int32) (y : Int32) : Int32 := (if (V_X12_isBetween g (x) (1) (8)) = 0 then 0 else (if (V_X12_isBetween g (y) (0) (65520)) = 0 then 0 else (V_X12_collected (s3 (S_X12_isWrong g (0)) 74 (x).toNatClampNeg 0 (y)))))
def S_X12_collect (g : vS) (x : Int32) (y : Int32) : vS := (if (V_X12_isBetween g (x) (1) (8)) = 0 then (S_X12_isWrong g (1)) else (if (V_X12_isBetween g (y) (0) (65520)) = 0 then (S_X12_isWrong g (1)) else (s3 (S_X12_isWrong g (0)) 74 (x).toNatClampNeg 0 (y))))
theorem F_X12_collect {g : vS} {x : Int32} {y : Int32} {c i j : Nat} (h1 : c ≠ 1) (h74 : c ≠ 74) : S_X12_collect g x y c i j = g c i j := by
  unfold S_X12_collect
  (repeat' split) <;> first | rfl | ((simp only [s3_k h1, s3_k h74, F_X12_isWrong h1]) <;> first | done | rfl)
set_option maxHeartbeats 4000000 in
set_option maxRecDepth 100000 in
theorem c_X12_collect {G : vG} (hG : G.1.stackTraces = false) {A : vN → Nat} {g : vS} {r : vH} (x : Int32) (y : Int32) (hu0 : 0 ≤ (g 2 0 0).toInt) (hu : (g 2 0 0).toInt ≤ 6) (hg0 : 0 ≤ (g 3 0 0).toInt) (hg : (g 3 0 0).toInt ≤ 5) (hf0 : 0 ≤ (g 4 0 0).toInt) (hf : (g 4 0 0).toInt ≤ 20) : vCt G yX12_collect cX12_collect 3 (some .int) 1 [.ref (A (40, 0)), .int (x), .int (y)] A (wm g r) (fun v A2 h2 => v = some (.int (V_X12_collect g x y)) ∧ A2 = A ∧ h2 = wm (S_X12_collect g x y) r) (vNoX) 0 0 := by
  refine v_of hG (by decide +kernel) (Nat.le_of_ble_eq_true rfl) (lv := [(0, .ref (A (40, 0))), (1, .int (x)), (2, .int (y))]) rfl (fun X C hnx => ?_)
  have C : vC G X cX12_collect 3 RX12 (some .int) "collect" 1 0 0 := C
  refine v_aload_n (pc := 0) C dX12_collect_0 0 rfl rfl ?_
  refine v_iload_n (pc := 1) C dX12_collect_1 1 rfl rfl ?_
  refine v_iconst (v := 1) (pc := 2) C dX12_collect_2 rfl ?_
  refine v_bipush (v := 8) (pc := 3) C dX12_collect_3 (by decide) ?_
  refine v_callS (pc := 5) C (c_X12_isBetween hG (x) (1) (8) ) 3 wd_1527 wd_68 wd_1525 wd_1526 (by decide +kernel) (by decide) (by decide) rfl ([.ref (A (40, 0))]) rfl (Nat.le_of_ble_eq_true rfl) (by decide) dX12_collect_5 (fun _ _ _ q => q.elim) (fun v9 A9 h9 hR9 => ?_)
  obtain ⟨rfl, hA9, rfl⟩ := hR9
  obtain rfl := hA9.symm
  refine v_st (k2 := 0) (n2 := 0) (st2 := [.int ((V_X12_isBetween g (x) (1) (8))), .ref (A (40, 0))]) rfl rfl rfl ?_
  have b_1 := ok_btw (g := g) (x := x) (a := 1) (b := 8)
  refine v_if_eq (pc := 8) (tgt := 26) C dX12_collect_8 (by decide) (fun c_2 => ?_) (fun c_2 => ?_)
  · skip
    refine v_iconst (v := 1) (pc := 26) C dX12_collect_26 rfl ?_
    refine v_callV (pc := 27) C (40, 0) ck_40 rfl (c_X12_isWrong hG (1) ) 1 wd_1531 wd_68 wd_1528 wd_1530 wd_35 (by decide +kernel) (by decide) (by decide) rfl ([]) rfl (Nat.le_of_ble_eq_true rfl) (by decide) dX12_collect_27 (fun _ _ _ q => q.elim) (fun v9 A9 h9 hR9 => ?_)
    obtain ⟨rfl, hA9, rfl⟩ := hR9
    obtain rfl := hA9.symm
    refine v_st (k2 := 0) (n2 := 0) (st2 := [.int ((V_X12_isWrong g (1)))]) rfl rfl rfl ?_
    refine v_if_eq (pc := 30) (tgt := 35) C dX12_collect_30 (by decide) (fun c_3 => ?_) (fun c_3 => ?_)
    · skip
      exact absurd c_3 (fun q9 => ((show ¬ (1 : Int32) = 0 from by decide)) q9)
    · skip
      refine v_iconst (v := 0) (pc := 33) C dX12_collect_33 rfl ?_
      exact v_iret (pc := 34) C (by decide) (by decide) dX12_collect_34 ⟨(congrArg (fun q => some (Value.int q)) (by show _ = _; rw [V_X12_collect, if_pos c_2])), rfl, (congrArg (fun q => wm q r) (by show _ = _; rw [S_X12_collect, if_pos c_2]))⟩
  · skip
    refine v_iload_n (pc := 11) C dX12_collect_11 2 rfl rfl ?_
    refine v_iconst (v := 0) (pc := 12) C dX12_collect_12 rfl ?_
    refine v_ldcw (v := 65520) (pc := 13) C dX12_collect_13 wd_1817 ?_
    refine v_callS (pc := 16) C (c_X12_isBetween hG (y) (0) (65520) ) 3 wd_1527 wd_68 wd_1525 wd_1526 (by decide +kernel) (by decide) (by decide) rfl ([.ref (A (40, 0))]) rfl (Nat.le_of_ble_eq_true rfl) (by decide) dX12_collect_16 (fun _ _ _ q => q.elim) (fun v9 A9 h9 hR9 => ?_)
    obtain ⟨rfl, hA9, rfl⟩ := hR9
    obtain rfl := hA9.symm
    refine v_st (k2 := 0) (n2 := 0) (st2 := [.int ((V_X12_isBetween g (y) (0) (65520))), .ref (A (40, 0))]) rfl rfl rfl ?_
    have b_4 := ok_btw (g := g) (x := y) (a := 0) (b := 65520)
    refine v_if_eq (pc := 19) (tgt := 26) C dX12_collect_19 (by decide) (fun c_5 => ?_) (fun c_5 => ?_)
    · skip
      refine v_iconst (v := 1) (pc := 26) C dX12_collect_26 rfl ?_
      refine v_callV (pc := 27) C (40, 0) ck_40 rfl (c_X12_isWrong hG (1) ) 1 wd_1531 wd_68 wd_1528 wd_1530 wd_35 (by decide +kernel) (by decide) (by decide) rfl ([]) rfl (Nat.le_of_ble_eq_true rfl) (by decide) dX12_collect_27 (fun _ _ _ q => q.elim) (fun v9 A9 h9 hR9 => ?_)
      obtain ⟨rfl, hA9, rfl⟩ := hR9
      obtain rfl := hA9.symm
      refine v_st (k2 := 0) (n2 := 0) (st2 := [.int ((V_X12_isWrong g (1)))]) rfl rfl rfl ?_
      refine v_if_eq (pc := 30) (tgt := 35) C dX12_collect_30 (by decide) (fun c_6 => ?_) (fun c_6 => ?_)
      · skip
        exact absurd c_6 (fun q9 => ((show ¬ (1 : Int32) = 0 from by decide)) q9)
      · skip
        refine v_iconst (v := 0) (pc := 33) C dX12_collect_33 rfl ?_
        exact v_iret (pc := 34) C (by decide) (by decide) dX12_collect_34 ⟨(congrArg (fun q => some (Value.int q)) (by show _ = _; rw [V_X12_collect, if_neg c_2, if_pos c_5])), rfl, (congrArg (fun q => wm q r) (by show _ = _; rw [S_X12_collect, if_neg c_2, if_pos c_5]))⟩
    · skip
      refine v_iconst (v := 0) (pc := 22) C dX12_collect_22 rfl ?_
      refine v_goto (tgt := 27) (pc := 23) C dX12_collect_23 (by decide) ?_
      refine v_callV (pc := 27) C (40, 0) ck_40 rfl (c_X12_isWrong hG (0) ) 1 wd_1531 wd_68 wd_1528 wd_1530 wd_35 (by decide +kernel) (by decide) (by decide) rfl ([]) rfl (Nat.le_of_ble_eq_true rfl) (by decide) dX12_collect_27 (fun _ _ _ q => q.elim) (fun v9 A9 h9 hR9 => ?_)
      obtain ⟨rfl, hA9, rfl⟩ := hR9
      obtain rfl := hA9.symm
      refine v_st (k2 := 0) (n2 := 0) (st2 := [.int ((V_X12_isWrong g (0)))]) rfl rfl rfl ?_
      refine v_if_eq (pc := 30) (tgt := 35) C dX12_collect_30 (by decide) (fun c_7 => ?_) (fun c_7 => ?_)
      · skip
        refine v_aload_n (pc := 35) C dX12_collect_35 0 rfl rfl ?_
        refine v_get (pc := 36) C (40, 0) (v := .ref (A (74, 0))) ck_40 rfl 37 (by decide) inX12 wd_1425 rfl rfl dX12_collect_36 ?_
        refine v_iload_n (pc := 39) C dX12_collect_39 1 rfl rfl ?_
        refine v_iload_n (pc := 40) C dX12_collect_40 2 rfl rfl ?_
        refine v_iast (pc := 41) C (74, 0) (x := y) ck_74 (by (try simp only [Int32.le_iff_toInt_le, Int32.lt_iff_toInt_lt, ← Int32.toInt_inj, vp_in_iff, Int32.reduceToInt] at c_2 c_5 c_7 b_1 b_4 hu hg hf ⊢) <;> omega) dX12_collect_41 ?_
        refine v_h (h2 := (wm (s3 (S_X12_isWrong g (0)) 74 (x).toNatClampNeg 0 (y)) r)) (u_74_a) ?_
        refine v_aload_n (pc := 42) C dX12_collect_42 0 rfl rfl ?_
        refine v_callV (pc := 43) C (40, 0) ck_40 rfl (c_X12_collected hG  ) 0 wd_1821 wd_68 wd_1818 wd_1820 wd_60 (by decide +kernel) (by decide) (by decide) rfl ([]) rfl (Nat.le_of_ble_eq_true rfl) (by decide) dX12_collect_43 (fun _ _ _ q => q.elim) (fun v9 A9 h9 hR9 => ?_)
        obtain ⟨rfl, hA9, rfl⟩ := hR9
        obtain rfl := hA9.symm
        refine v_st (k2 := 0) (n2 := 0) (st2 := [.int ((V_X12_collected (s3 (S_X12_isWrong g (0)) 74 (x).toNatClampNeg 0 (y))))]) rfl rfl rfl ?_
        exact v_iret (pc := 46) C (by decide) (by decide) dX12_collect_46 ⟨(congrArg (fun q => some (Value.int q)) (by show _ = _; rw [V_X12_collect, if_neg c_2, if_neg c_5])), rfl, (congrArg (fun q => wm q r) (by show _ = _; rw [S_X12_collect, if_neg c_2, if_neg c_5]))⟩
      · skip
        exact absurd c_7 (fun q9 => q9 ((show (0 : Int32) = 0 from rfl)))
def VL_X12_drop_12 (g : vS)  : Nat → Nat → vS → Int32
  | 0, _, _ => 0
  | n + 1, i_12, q_12 => (if 8 < nI i_12 then (V_X12_collected (s3 g 1 0 0 (0))) else (VL_X12_drop_12 g n (i_12 + 1) (s3 q_12 74 i_12 0 (-1))))
def SL_X12_drop_12 (g : vS)  : Nat → Nat → vS → vS
  | 0, _, q9 => q9
  | n + 1, i_12, q_12 => (if 8 < nI i_12 then q_12 else (SL_X12_drop_12 g n (i_12 + 1) (s3 q_12 74 i_12 0 (-1))))
def V_X12_drop (g : vS)  : Int32 := (VL_X12_drop_12 g (9 + 1) 1 (s3 g 1 0 0 (0)))
def S_X12_drop (g : vS)  : vS := (SL_X12_drop_12 g (9 + 1) 1 (s3 g 1 0 0 (0)))
theorem FL_X12_drop_12 {g : vS}  {c i j : Nat} (h1 : c ≠ 1) (h74 : c ≠ 74) : ∀ (n : Nat) (a0 : Nat) (a1 : vS), a1 c i j = g c i j → SL_X12_drop_12 g n a0 a1 c i j = g c i j := by
  intro n
  induction n with
  | zero => intro a0 a1 hq9; exact hq9
  | succ n ih =>
    intro a0 a1 hq9
    simp only [SL_X12_drop_12]
    (repeat' split) <;> first | rfl | exact hq9 | (apply ih; first | exact hq9 | rfl | trivial | ((simp only [s3_k h1, s3_k h74]) <;> first | done | exact hq9 | rfl)) | ((simp only [s3_k h1, s3_k h74]) <;> first | done | exact hq9 | rfl)
theorem F_X12_drop {g : vS}  {c i j : Nat} (h1 : c ≠ 1) (h74 : c ≠ 74) : S_X12_drop g c i j = g c i j := by
  unfold S_X12_drop
  (repeat' split) <;> first | rfl | (apply FL_X12_drop_12 h1 h74; first | rfl | trivial | ((simp only [s3_k h1, s3_k h74]) <;> first | done | rfl)) | ((simp only [s3_k h1, s3_k h74]) <;> first | done | rfl)
set_option maxHeartbeats 4000000 in
set_option maxRecDepth 100000 in
theorem c_X12_drop {G : vG} (hG : G.1.stackTraces = false) {A : vN → Nat} {g : vS} {r : vH}   : vCt G yX12_drop cX12_drop 3 (some .int) 1 [.ref (A (40, 0))] A (wm g r) (fun v A2 h2 => v = some (.int (V_X12_drop g)) ∧ A2 = A ∧ h2 = wm (S_X12_drop g) r) (vNoX) 0 0 := by
  refine v_of hG (by decide +kernel) (Nat.le_of_ble_eq_true rfl) (lv := [(0, .ref (A (40, 0)))]) rfl (fun X C hnx => ?_)
  have C : vC G X cX12_drop 3 RX12 (some .int) "drop" 1 0 0 := C
  refine v_aload_n (pc := 0) C dX12_drop_0 0 rfl rfl ?_
  refine v_iconst (v := 0) (pc := 1) C dX12_drop_1 rfl ?_
  refine v_put (pc := 2) C (40, 0) (v := .int (0)) ck_40 rfl 0 (by decide) inX12 tyX12 tyX12_ok nmX12 wd_1388 rfl (.inl (Value.int (0))) rfl (ty := tyX12 0) (by decide +kernel) rfl rfl (Nat.le_of_ble_eq_true rfl) dX12_drop_2 ?_
  refine v_h (h2 := (wm (s3 g 1 0 0 (0)) r)) (u_40_0) ?_
  refine v_aload_n (pc := 5) C dX12_drop_5 0 rfl rfl ?_
  refine v_callV (pc := 6) C (40, 0) ck_40 rfl (c_X12_collected hG  ) 0 wd_1821 wd_68 wd_1818 wd_1820 wd_60 (by decide +kernel) (by decide) (by decide) rfl ([]) rfl (Nat.le_of_ble_eq_true rfl) (by decide) dX12_drop_6 (fun _ _ _ q => q.elim) (fun v9 A9 h9 hR9 => ?_)
  obtain ⟨rfl, hA9, rfl⟩ := hR9
  obtain rfl := hA9.symm
  refine v_st (k2 := 0) (n2 := 0) (st2 := [.int ((V_X12_collected (s3 g 1 0 0 (0))))]) rfl rfl rfl ?_
  refine v_istore_n (lv2 := [(1, .int ((V_X12_collected (s3 g 1 0 0 (0))))), (0, .ref (A (40, 0)))]) (pc := 9) C dX12_drop_9 rfl (by decide) rfl ?_
  refine v_iconst (v := 1) (pc := 10) C dX12_drop_10 rfl ?_
  refine v_istore_n (lv2 := [(2, .int (1)), (1, .int ((V_X12_collected (s3 g 1 0 0 (0))))), (0, .ref (A (40, 0)))]) (pc := 11) C dX12_drop_11 rfl (by decide) rfl ?_
  have L_12 : ∀ (n : Nat) (i_12 : Nat) (q_12 : vS), i_12 ≤ 9 → 9 + 1 ≤ i_12 + n → (∀ (c i j : Nat), c ≠ 1 → c ≠ 74 → q_12 c i j = g c i j) → (V_X12_drop g) = VL_X12_drop_12 g n i_12 q_12 → (S_X12_drop g) = SL_X12_drop_12 g n i_12 q_12 → V G 3 X A (wm q_12 r) 0 0 (vM G X (fun v A2 h2 => v = some (.int (V_X12_drop g)) ∧ A2 = A ∧ h2 = wm (S_X12_drop g) r) (vNoX) 0 0) 12 [(2, .int (nI i_12)), (1, .int ((V_X12_collected (s3 g 1 0 0 (0))))), (0, .ref (A (40, 0)))] [] := by
    intro n
    induction n with
    | zero => intro i_12 q_12 hi_12 hc_12 hF_12 eV_12 eS_12; exact absurd hc_12 (by omega)
    | succ n ih =>
      intro i_12 q_12 hi_12 hc_12 hF_12 eV_12 eS_12
      have hq_12 : (nI i_12).toInt = (i_12 : Int) := nI_toInt (by omega)
      have hr_12 : (nI (i_12 + 1)).toInt = ((i_12 + 1 : Nat) : Int) := nI_toInt (by omega)
      refine v_iload_n (pc := 12) C dX12_drop_12 0 rfl rfl ?_
      refine v_bipush (v := 8) (pc := 13) C dX12_drop_13 (by decide) ?_
      refine v_icmp_gt (pc := 15) (tgt := 31) C dX12_drop_15 (by decide) (fun c_1 => ?_) (fun c_1 => ?_)
      · skip
        refine v_iload_n (pc := 31) C dX12_drop_31 1 rfl rfl ?_
        exact v_iret (pc := 32) C (by decide) (by decide) dX12_drop_32 ⟨(congrArg (fun q => some (Value.int q)) (by show _ = _; rw [eV_12, VL_X12_drop_12, if_pos c_1])), rfl, (congrArg (fun q => wm q r) (by show _ = _; rw [eS_12, SL_X12_drop_12, if_pos c_1]))⟩
      · skip
        refine v_aload_n (pc := 18) C dX12_drop_18 2 rfl rfl ?_
        refine v_get (pc := 19) C (40, 0) (v := .ref (A (74, 0))) ck_40 rfl 37 (by decide) inX12 wd_1425 rfl rfl dX12_drop_19 ?_
        refine v_iload_n (pc := 22) C dX12_drop_22 0 rfl rfl ?_
        refine v_iconst (v := -1) (pc := 23) C dX12_drop_23 rfl ?_
        refine v_iast (pc := 24) C (74, 0) (x := -1) ck_74 (by (try simp only [Int32.le_iff_toInt_le, Int32.lt_iff_toInt_lt, ← Int32.toInt_inj, vp_in_iff, Int32.reduceToInt] at c_1 hq_12 hr_12 ⊢) <;> omega) dX12_drop_24 ?_
        rw [show (nI i_12 : Int32).toNatClampNeg = i_12 from (nI_clamp (by omega))]
        refine v_h (h2 := (wm (s3 q_12 74 i_12 0 (-1)) r)) (u_74_a) ?_
        refine v_iinc (v := nI (i_12 + 1)) (lv2 := [(2, .int (nI (i_12 + 1))), (1, .int ((V_X12_collected (s3 g 1 0 0 (0))))), (0, .ref (A (40, 0)))]) (pc := 25) C dX12_drop_25 0 rfl (nI_1 _) (by decide) rfl ?_
        refine v_goto (tgt := 12) (pc := 28) C dX12_drop_28 (by decide) ?_
        refine v_lv (lv2 := [(2, .int (nI (i_12 + 1))), (1, .int ((V_X12_collected (s3 g 1 0 0 (0))))), (0, .ref (A (40, 0)))]) [0, 1, 2] rfl ?_
        exact ih (i_12 + 1) (s3 q_12 74 i_12 0 (-1)) (by (try simp only [Int32.le_iff_toInt_le, Int32.lt_iff_toInt_lt, ← Int32.toInt_inj, vp_in_iff, Int32.reduceToInt] at c_1 hq_12 hr_12 ⊢) <;> omega) (by omega) (fun c i j h1 h74 => (s3_k h74).trans (hF_12 c i j h1 h74)) (by rw [eV_12, VL_X12_drop_12, if_neg c_1]) (by rw [eS_12, SL_X12_drop_12, if_neg c_1])
  exact L_12 (9 + 1) 1 (s3 g 1 0 0 (0)) (by omega) (by omega) (fun c i j h1 h74 => s3_k h1) (by rw [V_X12_drop]) (by rw [S_X12_drop])
def V_X12_forget (g : vS) (x : Int32) : Int32 := (if (V_X12_isBetween g (x) (0) ((g 11 0 0))) = 0 then 0 else ((g 11 0 0) - x))
def S_X12_forget (g : vS) (x : Int32) : vS := (if (V_X12_isBetween g (x) (0) ((g 11 0 0))) = 0 then (S_X12_isWrong g (1)) else (s3 (S_X12_isWrong g (0)) 11 0 0 (x)))
theorem F_X12_forget {g : vS} {x : Int32} {c i j : Nat} (h1 : c ≠ 1) (h11 : c ≠ 11) : S_X12_forget g x c i j = g c i j := by
  unfold S_X12_forget
  (repeat' split) <;> first | rfl | ((simp only [s3_k h1, s3_k h11, F_X12_isWrong h1]) <;> first | done | rfl)
set_option maxHeartbeats 4000000 in
set_option maxRecDepth 100000 in
theorem c_X12_forget {G : vG} (hG : G.1.stackTraces = false) {A : vN → Nat} {g : vS} {r : vH} (x : Int32) (hu0 : 0 ≤ (g 2 0 0).toInt) (hu : (g 2 0 0).toInt ≤ 6) (hg0 : 0 ≤ (g 3 0 0).toInt) (hg : (g 3 0 0).toInt ≤ 5) (hf0 : 0 ≤ (g 4 0 0).toInt) (hf : (g 4 0 0).toInt ≤ 20) (hl0 : 0 ≤ (g 11 0 0).toInt) (hl : (g 11 0 0).toInt ≤ 300) : vCt G yX12_forget cX12_forget 3 (some .int) 1 [.ref (A (40, 0)), .int (x)] A (wm g r) (fun v A2 h2 => v = some (.int (V_X12_forget g x)) ∧ A2 = A ∧ h2 = wm (S_X12_forget g x) r) (vNoX) 0 0 := by
  refine v_of hG (by decide +kernel) (Nat.le_of_ble_eq_true rfl) (lv := [(0, .ref (A (40, 0))), (1, .int (x))]) rfl (fun X C hnx => ?_)
  have C : vC G X cX12_forget 3 RX12 (some .int) "forget" 1 0 0 := C
  refine v_aload_n (pc := 0) C dX12_forget_0 0 rfl rfl ?_
  refine v_iload_n (pc := 1) C dX12_forget_1 1 rfl rfl ?_
  refine v_iconst (v := 0) (pc := 2) C dX12_forget_2 rfl ?_
  refine v_aload_n (pc := 3) C dX12_forget_3 0 rfl rfl ?_
  refine v_get (pc := 4) C (40, 0) (v := .int ((g 11 0 0))) ck_40 rfl 36 (by decide) inX12 wd_1424 rfl rfl dX12_forget_4 ?_
  refine v_callS (pc := 7) C (c_X12_isBetween hG (x) (0) ((g 11 0 0)) ) 3 wd_1527 wd_68 wd_1525 wd_1526 (by decide +kernel) (by decide) (by decide) rfl ([.ref (A (40, 0))]) rfl (Nat.le_of_ble_eq_true rfl) (by decide) dX12_forget_7 (fun _ _ _ q => q.elim) (fun v9 A9 h9 hR9 => ?_)
  obtain ⟨rfl, hA9, rfl⟩ := hR9
  obtain rfl := hA9.symm
  refine v_st (k2 := 0) (n2 := 0) (st2 := [.int ((V_X12_isBetween g (x) (0) ((g 11 0 0)))), .ref (A (40, 0))]) rfl rfl rfl ?_
  have b_1 := ok_btw (g := g) (x := x) (a := 0) (b := (g 11 0 0))
  refine v_if_eq (pc := 10) (tgt := 17) C dX12_forget_10 (by decide) (fun c_2 => ?_) (fun c_2 => ?_)
  · skip
    refine v_iconst (v := 1) (pc := 17) C dX12_forget_17 rfl ?_
    refine v_callV (pc := 18) C (40, 0) ck_40 rfl (c_X12_isWrong hG (1) ) 1 wd_1531 wd_68 wd_1528 wd_1530 wd_35 (by decide +kernel) (by decide) (by decide) rfl ([]) rfl (Nat.le_of_ble_eq_true rfl) (by decide) dX12_forget_18 (fun _ _ _ q => q.elim) (fun v9 A9 h9 hR9 => ?_)
    obtain ⟨rfl, hA9, rfl⟩ := hR9
    obtain rfl := hA9.symm
    refine v_st (k2 := 0) (n2 := 0) (st2 := [.int ((V_X12_isWrong g (1)))]) rfl rfl rfl ?_
    refine v_if_eq (pc := 21) (tgt := 26) C dX12_forget_21 (by decide) (fun c_3 => ?_) (fun c_3 => ?_)
    · skip
      exact absurd c_3 (fun q9 => ((show ¬ (1 : Int32) = 0 from by decide)) q9)
    · skip
      refine v_iconst (v := 0) (pc := 24) C dX12_forget_24 rfl ?_
      exact v_iret (pc := 25) C (by decide) (by decide) dX12_forget_25 ⟨(congrArg (fun q => some (Value.int q)) (by show _ = _; rw [V_X12_forget, if_pos c_2])), rfl, (congrArg (fun q => wm q r) (by show _ = _; rw [S_X12_forget, if_pos c_2]))⟩
  · skip
    refine v_iconst (v := 0) (pc := 13) C dX12_forget_13 rfl ?_
    refine v_goto (tgt := 18) (pc := 14) C dX12_forget_14 (by decide) ?_
    refine v_callV (pc := 18) C (40, 0) ck_40 rfl (c_X12_isWrong hG (0) ) 1 wd_1531 wd_68 wd_1528 wd_1530 wd_35 (by decide +kernel) (by decide) (by decide) rfl ([]) rfl (Nat.le_of_ble_eq_true rfl) (by decide) dX12_forget_18 (fun _ _ _ q => q.elim) (fun v9 A9 h9 hR9 => ?_)
    obtain ⟨rfl, hA9, rfl⟩ := hR9
    obtain rfl := hA9.symm
    refine v_st (k2 := 0) (n2 := 0) (st2 := [.int ((V_X12_isWrong g (0)))]) rfl rfl rfl ?_
    refine v_if_eq (pc := 21) (tgt := 26) C dX12_forget_21 (by decide) (fun c_4 => ?_) (fun c_4 => ?_)
    · skip
      refine v_aload_n (pc := 26) C dX12_forget_26 0 rfl rfl ?_
      refine v_get (pc := 27) C (40, 0) (v := .int ((g 11 0 0))) ck_40 rfl 36 (by decide) inX12 wd_1424 rfl (congrArg Value.int (F_X12_isWrong (by decide))) dX12_forget_27 ?_
      refine v_iload_n (pc := 30) C dX12_forget_30 1 rfl rfl ?_
      refine v_isub (pc := 31) C dX12_forget_31 ?_
      refine v_istore_n (lv2 := [(2, .int (((g 11 0 0) - x))), (0, .ref (A (40, 0))), (1, .int (x))]) (pc := 32) C dX12_forget_32 rfl (by decide) rfl ?_
      refine v_aload_n (pc := 33) C dX12_forget_33 1 rfl rfl ?_
      refine v_iload_n (pc := 34) C dX12_forget_34 2 rfl rfl ?_
      refine v_put (pc := 35) C (40, 0) (v := .int (x)) ck_40 rfl 36 (by decide) inX12 tyX12 tyX12_ok nmX12 wd_1424 rfl (.inl (Value.int (x))) rfl (ty := tyX12 36) (by decide +kernel) rfl rfl (Nat.le_of_ble_eq_true rfl) dX12_forget_35 ?_
      refine v_h (h2 := (wm (s3 (S_X12_isWrong g (0)) 11 0 0 (x)) r)) (u_40_36) ?_
      refine v_iload_n (pc := 38) C dX12_forget_38 0 rfl rfl ?_
      exact v_iret (pc := 39) C (by decide) (by decide) dX12_forget_39 ⟨(congrArg (fun q => some (Value.int q)) (by show _ = _; rw [V_X12_forget, if_neg c_2])), rfl, (congrArg (fun q => wm q r) (by show _ = _; rw [S_X12_forget, if_neg c_2]))⟩
    · skip
      exact absurd c_4 (fun q9 => q9 ((show (0 : Int32) = 0 from rfl)))
def V_X12_split (g : vS) (x : Int32) (y : Int32) (z : Int32) : Int32 := (if (V_X12_isUser g (x)) = 0 then 0 else (if (V_X12_isBetween g (y) (1) (8)) = 0 then 0 else (if (V_X12_isBetween g (z) (1) (y)) = 0 then 0 else (g 46 (x).toNatClampNeg 0))))
def S_X12_split (g : vS) (x : Int32) (y : Int32) (z : Int32) : vS := (if (V_X12_isUser g (x)) = 0 then (S_X12_isWrong g (1)) else (if (V_X12_isBetween g (y) (1) (8)) = 0 then (S_X12_isWrong g (2)) else (if (V_X12_isBetween g (z) (1) (y)) = 0 then (S_X12_isWrong g (2)) else (s3 (s3 (S_X12_isWrong g (0)) 45 (x).toNatClampNeg 0 (y)) 46 (x).toNatClampNeg 0 (z)))))
theorem F_X12_split {g : vS} {x : Int32} {y : Int32} {z : Int32} {c i j : Nat} (h1 : c ≠ 1) (h45 : c ≠ 45) (h46 : c ≠ 46) : S_X12_split g x y z c i j = g c i j := by
  unfold S_X12_split
  (repeat' split) <;> first | rfl | ((simp only [s3_k h1, s3_k h45, s3_k h46, F_X12_isWrong h1]) <;> first | done | rfl)
set_option maxHeartbeats 4000000 in
set_option maxRecDepth 100000 in
theorem c_X12_split {G : vG} (hG : G.1.stackTraces = false) {A : vN → Nat} {g : vS} {r : vH} (x : Int32) (y : Int32) (z : Int32) (hu0 : 0 ≤ (g 2 0 0).toInt) (hu : (g 2 0 0).toInt ≤ 6) (hg0 : 0 ≤ (g 3 0 0).toInt) (hg : (g 3 0 0).toInt ≤ 5) (hf0 : 0 ≤ (g 4 0 0).toInt) (hf : (g 4 0 0).toInt ≤ 20) : vCt G yX12_split cX12_split 5 (some .int) 2 [.ref (A (40, 0)), .int (x), .int (y), .int (z)] A (wm g r) (fun v A2 h2 => v = some (.int (V_X12_split g x y z)) ∧ A2 = A ∧ h2 = wm (S_X12_split g x y z) r) (vNoX) 0 0 := by
  refine v_of hG (by decide +kernel) (Nat.le_of_ble_eq_true rfl) (lv := [(0, .ref (A (40, 0))), (1, .int (x)), (2, .int (y)), (3, .int (z))]) rfl (fun X C hnx => ?_)
  have C : vC G X cX12_split 5 RX12 (some .int) "split" 2 0 0 := C
  refine v_aload_n (pc := 0) C dX12_split_0 0 rfl rfl ?_
  refine v_aload_n (pc := 1) C dX12_split_1 0 rfl rfl ?_
  refine v_iload_n (pc := 2) C dX12_split_2 1 rfl rfl ?_
  refine v_callV (pc := 3) C (40, 0) ck_40 rfl (c_X12_isUser hG (x) ) 1 wd_1539 wd_68 wd_1536 wd_1538 wd_36 (by decide +kernel) (by decide) (by decide) rfl ([.ref (A (40, 0))]) rfl (Nat.le_of_ble_eq_true rfl) (by decide) dX12_split_3 (fun _ _ _ q => q.elim) (fun v9 A9 h9 hR9 => ?_)
  obtain ⟨rfl, hA9, rfl⟩ := hR9
  obtain rfl := hA9.symm
  refine v_st (k2 := 0) (n2 := 0) (st2 := [.int ((V_X12_isUser g (x))), .ref (A (40, 0))]) rfl rfl rfl ?_
  have b_1 := ok_isUser (g := g) (x := x) hu0
  refine v_if_ne (pc := 6) (tgt := 13) C dX12_split_6 (by decide) (fun c_2 => ?_) (fun c_2 => ?_)
  · skip
    refine v_iload_n (pc := 13) C dX12_split_13 2 rfl rfl ?_
    refine v_iconst (v := 1) (pc := 14) C dX12_split_14 rfl ?_
    refine v_bipush (v := 8) (pc := 15) C dX12_split_15 (by decide) ?_
    refine v_callS (pc := 17) C (c_X12_isBetween hG (y) (1) (8) ) 3 wd_1527 wd_68 wd_1525 wd_1526 (by decide +kernel) (by decide) (by decide) rfl ([.ref (A (40, 0))]) rfl (Nat.le_of_ble_eq_true rfl) (by decide) dX12_split_17 (fun _ _ _ q => q.elim) (fun v9 A9 h9 hR9 => ?_)
    obtain ⟨rfl, hA9, rfl⟩ := hR9
    obtain rfl := hA9.symm
    refine v_st (k2 := 0) (n2 := 0) (st2 := [.int ((V_X12_isBetween g (y) (1) (8))), .ref (A (40, 0))]) rfl rfl rfl ?_
    have b_3 := ok_btw (g := g) (x := y) (a := 1) (b := 8)
    refine v_if_eq (pc := 20) (tgt := 32) C dX12_split_20 (by decide) (fun c_4 => ?_) (fun c_4 => ?_)
    · skip
      refine v_iconst (v := 2) (pc := 32) C dX12_split_32 rfl ?_
      refine v_goto (tgt := 37) (pc := 33) C dX12_split_33 (by decide) ?_
      refine v_callV (pc := 37) C (40, 0) ck_40 rfl (c_X12_isWrong hG (2) ) 1 wd_1531 wd_68 wd_1528 wd_1530 wd_35 (by decide +kernel) (by decide) (by decide) rfl ([]) rfl (Nat.le_of_ble_eq_true rfl) (by decide) dX12_split_37 (fun _ _ _ q => q.elim) (fun v9 A9 h9 hR9 => ?_)
      obtain ⟨rfl, hA9, rfl⟩ := hR9
      obtain rfl := hA9.symm
      refine v_st (k2 := 0) (n2 := 0) (st2 := [.int ((V_X12_isWrong g (2)))]) rfl rfl rfl ?_
      refine v_if_eq (pc := 40) (tgt := 45) C dX12_split_40 (by decide) (fun c_5 => ?_) (fun c_5 => ?_)
      · skip
        exact absurd c_5 (fun q9 => ((show ¬ (1 : Int32) = 0 from by decide)) q9)
      · skip
        refine v_iconst (v := 0) (pc := 43) C dX12_split_43 rfl ?_
        exact v_iret (pc := 44) C (by decide) (by decide) dX12_split_44 ⟨(congrArg (fun q => some (Value.int q)) (by show _ = _; rw [V_X12_split, if_neg c_2, if_pos c_4])), rfl, (congrArg (fun q => wm q r) (by show _ = _; rw [S_X12_split, if_neg c_2, if_pos c_4]))⟩
    · skip
      refine v_iload_n (pc := 23) C dX12_split_23 3 rfl rfl ?_
      refine v_iconst (v := 1) (pc := 24) C dX12_split_24 rfl ?_
      refine v_iload_n (pc := 25) C dX12_split_25 2 rfl rfl ?_
      refine v_callS (pc := 26) C (c_X12_isBetween hG (z) (1) (y) ) 3 wd_1527 wd_68 wd_1525 wd_1526 (by decide +kernel) (by decide) (by decide) rfl ([.ref (A (40, 0))]) rfl (Nat.le_of_ble_eq_true rfl) (by decide) dX12_split_26 (fun _ _ _ q => q.elim) (fun v9 A9 h9 hR9 => ?_)
      obtain ⟨rfl, hA9, rfl⟩ := hR9
      obtain rfl := hA9.symm
      refine v_st (k2 := 0) (n2 := 0) (st2 := [.int ((V_X12_isBetween g (z) (1) (y))), .ref (A (40, 0))]) rfl rfl rfl ?_
      have b_6 := ok_btw (g := g) (x := z) (a := 1) (b := y)
      refine v_if_ne (pc := 29) (tgt := 36) C dX12_split_29 (by decide) (fun c_7 => ?_) (fun c_7 => ?_)
      · skip
        refine v_iconst (v := 0) (pc := 36) C dX12_split_36 rfl ?_
        refine v_callV (pc := 37) C (40, 0) ck_40 rfl (c_X12_isWrong hG (0) ) 1 wd_1531 wd_68 wd_1528 wd_1530 wd_35 (by decide +kernel) (by decide) (by decide) rfl ([]) rfl (Nat.le_of_ble_eq_true rfl) (by decide) dX12_split_37 (fun _ _ _ q => q.elim) (fun v9 A9 h9 hR9 => ?_)
        obtain ⟨rfl, hA9, rfl⟩ := hR9
        obtain rfl := hA9.symm
        refine v_st (k2 := 0) (n2 := 0) (st2 := [.int ((V_X12_isWrong g (0)))]) rfl rfl rfl ?_
        refine v_if_eq (pc := 40) (tgt := 45) C dX12_split_40 (by decide) (fun c_8 => ?_) (fun c_8 => ?_)
        · skip
          refine v_aload_n (pc := 45) C dX12_split_45 0 rfl rfl ?_
          refine v_get (pc := 46) C (40, 0) (v := .ref (A (46, 0))) ck_40 rfl 6 (by decide) inX12 wd_1394 rfl rfl dX12_split_46 ?_
          refine v_iload_n (pc := 49) C dX12_split_49 1 rfl rfl ?_
          refine v_iald (pc := 50) C (46, 0) (v := (g 46 (x).toNatClampNeg 0)) ck_46 (by (try simp only [Int32.le_iff_toInt_le, Int32.lt_iff_toInt_lt, ← Int32.toInt_inj, vp_in_iff, Int32.reduceToInt] at c_2 c_4 c_7 c_8 b_1 b_3 b_6 hu hg hf ⊢) <;> omega) (F_X12_isWrong (by decide)) dX12_split_50 ?_
          refine v_istore (lv2 := [(4, .int ((g 46 (x).toNatClampNeg 0))), (0, .ref (A (40, 0))), (1, .int (x)), (2, .int (y)), (3, .int (z))]) (pc := 51) C dX12_split_51 (by decide) rfl ?_
          refine v_aload_n (pc := 53) C dX12_split_53 1 rfl rfl ?_
          refine v_get (pc := 54) C (40, 0) (v := .ref (A (45, 0))) ck_40 rfl 5 (by decide) inX12 wd_1393 rfl rfl dX12_split_54 ?_
          refine v_iload_n (pc := 57) C dX12_split_57 2 rfl rfl ?_
          refine v_iload_n (pc := 58) C dX12_split_58 3 rfl rfl ?_
          refine v_iast (pc := 59) C (45, 0) (x := y) ck_45 (by (try simp only [Int32.le_iff_toInt_le, Int32.lt_iff_toInt_lt, ← Int32.toInt_inj, vp_in_iff, Int32.reduceToInt] at c_2 c_4 c_7 c_8 b_1 b_3 b_6 hu hg hf ⊢) <;> omega) dX12_split_59 ?_
          refine v_h (h2 := (wm (s3 (S_X12_isWrong g (0)) 45 (x).toNatClampNeg 0 (y)) r)) (u_45_a) ?_
          refine v_aload_n (pc := 60) C dX12_split_60 1 rfl rfl ?_
          refine v_get (pc := 61) C (40, 0) (v := .ref (A (46, 0))) ck_40 rfl 6 (by decide) inX12 wd_1394 rfl rfl dX12_split_61 ?_
          refine v_iload_n (pc := 64) C dX12_split_64 2 rfl rfl ?_
          refine v_iload_n (pc := 65) C dX12_split_65 4 rfl rfl ?_
          refine v_iast (pc := 66) C (46, 0) (x := z) ck_46 (by (try simp only [Int32.le_iff_toInt_le, Int32.lt_iff_toInt_lt, ← Int32.toInt_inj, vp_in_iff, Int32.reduceToInt] at c_2 c_4 c_7 c_8 b_1 b_3 b_6 hu hg hf ⊢) <;> omega) dX12_split_66 ?_
          refine v_h (h2 := (wm (s3 (s3 (S_X12_isWrong g (0)) 45 (x).toNatClampNeg 0 (y)) 46 (x).toNatClampNeg 0 (z)) r)) (u_46_a) ?_
          refine v_iload (pc := 67) C dX12_split_67 0 rfl ?_
          exact v_iret (pc := 69) C (by decide) (by decide) dX12_split_69 ⟨(congrArg (fun q => some (Value.int q)) (by show _ = _; rw [V_X12_split, if_neg c_2, if_neg c_4, if_neg c_7])), rfl, (congrArg (fun q => wm q r) (by show _ = _; rw [S_X12_split, if_neg c_2, if_neg c_4, if_neg c_7]))⟩
        · skip
          exact absurd c_8 (fun q9 => q9 ((show (0 : Int32) = 0 from rfl)))
      · skip
        refine v_iconst (v := 2) (pc := 32) C dX12_split_32 rfl ?_
        refine v_goto (tgt := 37) (pc := 33) C dX12_split_33 (by decide) ?_
        refine v_callV (pc := 37) C (40, 0) ck_40 rfl (c_X12_isWrong hG (2) ) 1 wd_1531 wd_68 wd_1528 wd_1530 wd_35 (by decide +kernel) (by decide) (by decide) rfl ([]) rfl (Nat.le_of_ble_eq_true rfl) (by decide) dX12_split_37 (fun _ _ _ q => q.elim) (fun v9 A9 h9 hR9 => ?_)
        obtain ⟨rfl, hA9, rfl⟩ := hR9
        obtain rfl := hA9.symm
        refine v_st (k2 := 0) (n2 := 0) (st2 := [.int ((V_X12_isWrong g (2)))]) rfl rfl rfl ?_
        refine v_if_eq (pc := 40) (tgt := 45) C dX12_split_40 (by decide) (fun c_9 => ?_) (fun c_9 => ?_)
        · skip
          exact absurd c_9 (fun q9 => ((show ¬ (1 : Int32) = 0 from by decide)) q9)
        · skip
          refine v_iconst (v := 0) (pc := 43) C dX12_split_43 rfl ?_
          exact v_iret (pc := 44) C (by decide) (by decide) dX12_split_44 ⟨(congrArg (fun q => some (Value.int q)) (by show _ = _; rw [V_X12_split, if_neg c_2, if_neg c_4, if_pos c_7])), rfl, (congrArg (fun q => wm q r) (by show _ = _; rw [S_X12_split, if_neg c_2, if_neg c_4, if_pos c_7]))⟩
  · skip
    refine v_iconst (v := 1) (pc := 9) C dX12_split_9 rfl ?_
    refine v_goto (tgt := 37) (pc := 10) C dX12_split_10 (by decide) ?_
    refine v_callV (pc := 37) C (40, 0) ck_40 rfl (c_X12_isWrong hG (1) ) 1 wd_1531 wd_68 wd_1528 wd_1530 wd_35 (by decide +kernel) (by decide) (by decide) rfl ([]) rfl (Nat.le_of_ble_eq_true rfl) (by decide) dX12_split_37 (fun _ _ _ q => q.elim) (fun v9 A9 h9 hR9 => ?_)
    obtain ⟨rfl, hA9, rfl⟩ := hR9
    obtain rfl := hA9.symm
    refine v_st (k2 := 0) (n2 := 0) (st2 := [.int ((V_X12_isWrong g (1)))]) rfl rfl rfl ?_
    refine v_if_eq (pc := 40) (tgt := 45) C dX12_split_40 (by decide) (fun c_10 => ?_) (fun c_10 => ?_)
    · skip
      exact absurd c_10 (fun q9 => ((show ¬ (1 : Int32) = 0 from by decide)) q9)
    · skip
      refine v_iconst (v := 0) (pc := 43) C dX12_split_43 rfl ?_
      exact v_iret (pc := 44) C (by decide) (by decide) dX12_split_44 ⟨(congrArg (fun q => some (Value.int q)) (by show _ = _; rw [V_X12_split, if_pos c_2])), rfl, (congrArg (fun q => wm q r) (by show _ = _; rw [S_X12_split, if_pos c_2]))⟩
def V_X12_isNoLeaf (g : vS) (x : Int32) (y : Int32) : Int32 := (if (V_X12_isBetween g (x) (0) ((g 11 0 0))) = 0 then (V_X12_isWrong g (1)) else (if (V_X12_isBetween g (y) (0) ((x - 1))) = 0 then (V_X12_isWrong g (2)) else (V_X12_isWrong g (0))))
theorem B_X12_isNoLeaf {g : vS} {x : Int32} {y : Int32} : V_X12_isNoLeaf g x y = 0 ∨ V_X12_isNoLeaf g x y = 1 := by
  unfold V_X12_isNoLeaf
  (repeat' split) <;> first | exact Or.inl rfl | exact Or.inr rfl | exact B_X12_isWrong
def S_X12_isNoLeaf (g : vS) (x : Int32) (y : Int32) : vS := (if (V_X12_isBetween g (x) (0) ((g 11 0 0))) = 0 then (S_X12_isWrong g (1)) else (if (V_X12_isBetween g (y) (0) ((x - 1))) = 0 then (S_X12_isWrong g (2)) else (S_X12_isWrong g (0))))
theorem F_X12_isNoLeaf {g : vS} {x : Int32} {y : Int32} {c i j : Nat} (h1 : c ≠ 1) : S_X12_isNoLeaf g x y c i j = g c i j := by
  unfold S_X12_isNoLeaf
  (repeat' split) <;> first | rfl | ((simp only [s3_k h1, F_X12_isWrong h1]) <;> first | done | rfl)
set_option maxHeartbeats 4000000 in
set_option maxRecDepth 100000 in
theorem c_X12_isNoLeaf {G : vG} (hG : G.1.stackTraces = false) {A : vN → Nat} {g : vS} {r : vH} (x : Int32) (y : Int32) (hu0 : 0 ≤ (g 2 0 0).toInt) (hu : (g 2 0 0).toInt ≤ 6) (hg0 : 0 ≤ (g 3 0 0).toInt) (hg : (g 3 0 0).toInt ≤ 5) (hf0 : 0 ≤ (g 4 0 0).toInt) (hf : (g 4 0 0).toInt ≤ 20) (hl0 : 0 ≤ (g 11 0 0).toInt) (hl : (g 11 0 0).toInt ≤ 300) : vCt G yX12_isNoLeaf cX12_isNoLeaf 3 (some .boolean) 1 [.ref (A (40, 0)), .int (x), .int (y)] A (wm g r) (fun v A2 h2 => v = some (.int (V_X12_isNoLeaf g x y)) ∧ A2 = A ∧ h2 = wm (S_X12_isNoLeaf g x y) r) (vNoX) 0 0 := by
  refine v_of hG (by decide +kernel) (Nat.le_of_ble_eq_true rfl) (lv := [(0, .ref (A (40, 0))), (1, .int (x)), (2, .int (y))]) rfl (fun X C hnx => ?_)
  have C : vC G X cX12_isNoLeaf 3 RX12 (some .boolean) "isNoLeaf" 1 0 0 := C
  refine v_aload_n (pc := 0) C dX12_isNoLeaf_0 0 rfl rfl ?_
  refine v_iload_n (pc := 1) C dX12_isNoLeaf_1 1 rfl rfl ?_
  refine v_iconst (v := 0) (pc := 2) C dX12_isNoLeaf_2 rfl ?_
  refine v_aload_n (pc := 3) C dX12_isNoLeaf_3 0 rfl rfl ?_
  refine v_get (pc := 4) C (40, 0) (v := .int ((g 11 0 0))) ck_40 rfl 36 (by decide) inX12 wd_1424 rfl rfl dX12_isNoLeaf_4 ?_
  refine v_callS (pc := 7) C (c_X12_isBetween hG (x) (0) ((g 11 0 0)) ) 3 wd_1527 wd_68 wd_1525 wd_1526 (by decide +kernel) (by decide) (by decide) rfl ([.ref (A (40, 0))]) rfl (Nat.le_of_ble_eq_true rfl) (by decide) dX12_isNoLeaf_7 (fun _ _ _ q => q.elim) (fun v9 A9 h9 hR9 => ?_)
  obtain ⟨rfl, hA9, rfl⟩ := hR9
  obtain rfl := hA9.symm
  refine v_st (k2 := 0) (n2 := 0) (st2 := [.int ((V_X12_isBetween g (x) (0) ((g 11 0 0)))), .ref (A (40, 0))]) rfl rfl rfl ?_
  have b_1 := ok_btw (g := g) (x := x) (a := 0) (b := (g 11 0 0))
  refine v_if_ne (pc := 10) (tgt := 17) C dX12_isNoLeaf_10 (by decide) (fun c_2 => ?_) (fun c_2 => ?_)
  · skip
    refine v_iload_n (pc := 17) C dX12_isNoLeaf_17 2 rfl rfl ?_
    refine v_iconst (v := 0) (pc := 18) C dX12_isNoLeaf_18 rfl ?_
    refine v_iload_n (pc := 19) C dX12_isNoLeaf_19 1 rfl rfl ?_
    refine v_iconst (v := 1) (pc := 20) C dX12_isNoLeaf_20 rfl ?_
    refine v_isub (pc := 21) C dX12_isNoLeaf_21 ?_
    refine v_callS (pc := 22) C (c_X12_isBetween hG (y) (0) ((x - 1)) ) 3 wd_1527 wd_68 wd_1525 wd_1526 (by decide +kernel) (by decide) (by decide) rfl ([.ref (A (40, 0))]) rfl (Nat.le_of_ble_eq_true rfl) (by decide) dX12_isNoLeaf_22 (fun _ _ _ q => q.elim) (fun v9 A9 h9 hR9 => ?_)
    obtain ⟨rfl, hA9, rfl⟩ := hR9
    obtain rfl := hA9.symm
    refine v_st (k2 := 0) (n2 := 0) (st2 := [.int ((V_X12_isBetween g (y) (0) ((x - 1)))), .ref (A (40, 0))]) rfl rfl rfl ?_
    have b_3 := ok_btw (g := g) (x := y) (a := 0) (b := (x - 1))
    refine v_if_eq (pc := 25) (tgt := 32) C dX12_isNoLeaf_25 (by decide) (fun c_4 => ?_) (fun c_4 => ?_)
    · skip
      refine v_iconst (v := 2) (pc := 32) C dX12_isNoLeaf_32 rfl ?_
      refine v_callV (pc := 33) C (40, 0) ck_40 rfl (c_X12_isWrong hG (2) ) 1 wd_1531 wd_68 wd_1528 wd_1530 wd_35 (by decide +kernel) (by decide) (by decide) rfl ([]) rfl (Nat.le_of_ble_eq_true rfl) (by decide) dX12_isNoLeaf_33 (fun _ _ _ q => q.elim) (fun v9 A9 h9 hR9 => ?_)
      obtain ⟨rfl, hA9, rfl⟩ := hR9
      obtain rfl := hA9.symm
      refine v_st (k2 := 0) (n2 := 0) (st2 := [.int ((V_X12_isWrong g (2)))]) rfl rfl rfl ?_
      exact v_zret (pc := 36) C (nar_b B_X12_isWrong) (by decide) (by decide) dX12_isNoLeaf_36 ⟨(congrArg (fun q => some (Value.int q)) (by show _ = _; rw [V_X12_isNoLeaf, if_neg c_2, if_pos c_4])), rfl, (congrArg (fun q => wm q r) (by show _ = _; rw [S_X12_isNoLeaf, if_neg c_2, if_pos c_4]))⟩
    · skip
      refine v_iconst (v := 0) (pc := 28) C dX12_isNoLeaf_28 rfl ?_
      refine v_goto (tgt := 33) (pc := 29) C dX12_isNoLeaf_29 (by decide) ?_
      refine v_callV (pc := 33) C (40, 0) ck_40 rfl (c_X12_isWrong hG (0) ) 1 wd_1531 wd_68 wd_1528 wd_1530 wd_35 (by decide +kernel) (by decide) (by decide) rfl ([]) rfl (Nat.le_of_ble_eq_true rfl) (by decide) dX12_isNoLeaf_33 (fun _ _ _ q => q.elim) (fun v9 A9 h9 hR9 => ?_)
      obtain ⟨rfl, hA9, rfl⟩ := hR9
      obtain rfl := hA9.symm
      refine v_st (k2 := 0) (n2 := 0) (st2 := [.int ((V_X12_isWrong g (0)))]) rfl rfl rfl ?_
      exact v_zret (pc := 36) C (nar_b B_X12_isWrong) (by decide) (by decide) dX12_isNoLeaf_36 ⟨(congrArg (fun q => some (Value.int q)) (by show _ = _; rw [V_X12_isNoLeaf, if_neg c_2, if_neg c_4])), rfl, (congrArg (fun q => wm q r) (by show _ = _; rw [S_X12_isNoLeaf, if_neg c_2, if_neg c_4]))⟩
  · skip
    refine v_iconst (v := 1) (pc := 13) C dX12_isNoLeaf_13 rfl ?_
    refine v_goto (tgt := 33) (pc := 14) C dX12_isNoLeaf_14 (by decide) ?_
    refine v_callV (pc := 33) C (40, 0) ck_40 rfl (c_X12_isWrong hG (1) ) 1 wd_1531 wd_68 wd_1528 wd_1530 wd_35 (by decide +kernel) (by decide) (by decide) rfl ([]) rfl (Nat.le_of_ble_eq_true rfl) (by decide) dX12_isNoLeaf_33 (fun _ _ _ q => q.elim) (fun v9 A9 h9 hR9 => ?_)
    obtain ⟨rfl, hA9, rfl⟩ := hR9
    obtain rfl := hA9.symm
    refine v_st (k2 := 0) (n2 := 0) (st2 := [.int ((V_X12_isWrong g (1)))]) rfl rfl rfl ?_
    exact v_zret (pc := 36) C (nar_b B_X12_isWrong) (by decide) (by decide) dX12_isNoLeaf_36 ⟨(congrArg (fun q => some (Value.int q)) (by show _ = _; rw [V_X12_isNoLeaf, if_pos c_2])), rfl, (congrArg (fun q => wm q r) (by show _ = _; rw [S_X12_isNoLeaf, if_pos c_2]))⟩
def V_X12_isNoPrefix (g : vS) (x : Int32) (y : Int32) : Int32 := (if (V_X12_isBetween g (y) (0) ((g 11 0 0))) = 0 then (V_X12_isWrong g (1)) else (if (V_X12_isBetween g (x) (1) (y)) = 0 then (V_X12_isWrong g (1)) else (V_X12_isWrong g (0))))
theorem B_X12_isNoPrefix {g : vS} {x : Int32} {y : Int32} : V_X12_isNoPrefix g x y = 0 ∨ V_X12_isNoPrefix g x y = 1 := by
  unfold V_X12_isNoPrefix
  (repeat' split) <;> first | exact Or.inl rfl | exact Or.inr rfl | exact B_X12_isWrong
def S_X12_isNoPrefix (g : vS) (x : Int32) (y : Int32) : vS := (if (V_X12_isBetween g (y) (0) ((g 11 0 0))) = 0 then (S_X12_isWrong g (1)) else (if (V_X12_isBetween g (x) (1) (y)) = 0 then (S_X12_isWrong g (1)) else (S_X12_isWrong g (0))))
theorem F_X12_isNoPrefix {g : vS} {x : Int32} {y : Int32} {c i j : Nat} (h1 : c ≠ 1) : S_X12_isNoPrefix g x y c i j = g c i j := by
  unfold S_X12_isNoPrefix
  (repeat' split) <;> first | rfl | ((simp only [s3_k h1, F_X12_isWrong h1]) <;> first | done | rfl)
set_option maxHeartbeats 4000000 in
set_option maxRecDepth 100000 in
theorem c_X12_isNoPrefix {G : vG} (hG : G.1.stackTraces = false) {A : vN → Nat} {g : vS} {r : vH} (x : Int32) (y : Int32) (hu0 : 0 ≤ (g 2 0 0).toInt) (hu : (g 2 0 0).toInt ≤ 6) (hg0 : 0 ≤ (g 3 0 0).toInt) (hg : (g 3 0 0).toInt ≤ 5) (hf0 : 0 ≤ (g 4 0 0).toInt) (hf : (g 4 0 0).toInt ≤ 20) (hl0 : 0 ≤ (g 11 0 0).toInt) (hl : (g 11 0 0).toInt ≤ 300) : vCt G yX12_isNoPrefix cX12_isNoPrefix 3 (some .boolean) 1 [.ref (A (40, 0)), .int (x), .int (y)] A (wm g r) (fun v A2 h2 => v = some (.int (V_X12_isNoPrefix g x y)) ∧ A2 = A ∧ h2 = wm (S_X12_isNoPrefix g x y) r) (vNoX) 0 0 := by
  refine v_of hG (by decide +kernel) (Nat.le_of_ble_eq_true rfl) (lv := [(0, .ref (A (40, 0))), (1, .int (x)), (2, .int (y))]) rfl (fun X C hnx => ?_)
  have C : vC G X cX12_isNoPrefix 3 RX12 (some .boolean) "isNoPrefix" 1 0 0 := C
  refine v_aload_n (pc := 0) C dX12_isNoPrefix_0 0 rfl rfl ?_
  refine v_iload_n (pc := 1) C dX12_isNoPrefix_1 2 rfl rfl ?_
  refine v_iconst (v := 0) (pc := 2) C dX12_isNoPrefix_2 rfl ?_
  refine v_aload_n (pc := 3) C dX12_isNoPrefix_3 0 rfl rfl ?_
  refine v_get (pc := 4) C (40, 0) (v := .int ((g 11 0 0))) ck_40 rfl 36 (by decide) inX12 wd_1424 rfl rfl dX12_isNoPrefix_4 ?_
  refine v_callS (pc := 7) C (c_X12_isBetween hG (y) (0) ((g 11 0 0)) ) 3 wd_1527 wd_68 wd_1525 wd_1526 (by decide +kernel) (by decide) (by decide) rfl ([.ref (A (40, 0))]) rfl (Nat.le_of_ble_eq_true rfl) (by decide) dX12_isNoPrefix_7 (fun _ _ _ q => q.elim) (fun v9 A9 h9 hR9 => ?_)
  obtain ⟨rfl, hA9, rfl⟩ := hR9
  obtain rfl := hA9.symm
  refine v_st (k2 := 0) (n2 := 0) (st2 := [.int ((V_X12_isBetween g (y) (0) ((g 11 0 0)))), .ref (A (40, 0))]) rfl rfl rfl ?_
  have b_1 := ok_btw (g := g) (x := y) (a := 0) (b := (g 11 0 0))
  refine v_if_eq (pc := 10) (tgt := 26) C dX12_isNoPrefix_10 (by decide) (fun c_2 => ?_) (fun c_2 => ?_)
  · skip
    refine v_iconst (v := 1) (pc := 26) C dX12_isNoPrefix_26 rfl ?_
    refine v_callV (pc := 27) C (40, 0) ck_40 rfl (c_X12_isWrong hG (1) ) 1 wd_1531 wd_68 wd_1528 wd_1530 wd_35 (by decide +kernel) (by decide) (by decide) rfl ([]) rfl (Nat.le_of_ble_eq_true rfl) (by decide) dX12_isNoPrefix_27 (fun _ _ _ q => q.elim) (fun v9 A9 h9 hR9 => ?_)
    obtain ⟨rfl, hA9, rfl⟩ := hR9
    obtain rfl := hA9.symm
    refine v_st (k2 := 0) (n2 := 0) (st2 := [.int ((V_X12_isWrong g (1)))]) rfl rfl rfl ?_
    exact v_zret (pc := 30) C (nar_b B_X12_isWrong) (by decide) (by decide) dX12_isNoPrefix_30 ⟨(congrArg (fun q => some (Value.int q)) (by show _ = _; rw [V_X12_isNoPrefix, if_pos c_2])), rfl, (congrArg (fun q => wm q r) (by show _ = _; rw [S_X12_isNoPrefix, if_pos c_2]))⟩
  · skip
    refine v_iload_n (pc := 13) C dX12_isNoPrefix_13 1 rfl rfl ?_
    refine v_iconst (v := 1) (pc := 14) C dX12_isNoPrefix_14 rfl ?_
    refine v_iload_n (pc := 15) C dX12_isNoPrefix_15 2 rfl rfl ?_
    refine v_callS (pc := 16) C (c_X12_isBetween hG (x) (1) (y) ) 3 wd_1527 wd_68 wd_1525 wd_1526 (by decide +kernel) (by decide) (by decide) rfl ([.ref (A (40, 0))]) rfl (Nat.le_of_ble_eq_true rfl) (by decide) dX12_isNoPrefix_16 (fun _ _ _ q => q.elim) (fun v9 A9 h9 hR9 => ?_)
    obtain ⟨rfl, hA9, rfl⟩ := hR9
    obtain rfl := hA9.symm
    refine v_st (k2 := 0) (n2 := 0) (st2 := [.int ((V_X12_isBetween g (x) (1) (y))), .ref (A (40, 0))]) rfl rfl rfl ?_
    have b_3 := ok_btw (g := g) (x := x) (a := 1) (b := y)
    refine v_if_eq (pc := 19) (tgt := 26) C dX12_isNoPrefix_19 (by decide) (fun c_4 => ?_) (fun c_4 => ?_)
    · skip
      refine v_iconst (v := 1) (pc := 26) C dX12_isNoPrefix_26 rfl ?_
      refine v_callV (pc := 27) C (40, 0) ck_40 rfl (c_X12_isWrong hG (1) ) 1 wd_1531 wd_68 wd_1528 wd_1530 wd_35 (by decide +kernel) (by decide) (by decide) rfl ([]) rfl (Nat.le_of_ble_eq_true rfl) (by decide) dX12_isNoPrefix_27 (fun _ _ _ q => q.elim) (fun v9 A9 h9 hR9 => ?_)
      obtain ⟨rfl, hA9, rfl⟩ := hR9
      obtain rfl := hA9.symm
      refine v_st (k2 := 0) (n2 := 0) (st2 := [.int ((V_X12_isWrong g (1)))]) rfl rfl rfl ?_
      exact v_zret (pc := 30) C (nar_b B_X12_isWrong) (by decide) (by decide) dX12_isNoPrefix_30 ⟨(congrArg (fun q => some (Value.int q)) (by show _ = _; rw [V_X12_isNoPrefix, if_neg c_2, if_pos c_4])), rfl, (congrArg (fun q => wm q r) (by show _ = _; rw [S_X12_isNoPrefix, if_neg c_2, if_pos c_4]))⟩
    · skip
      refine v_iconst (v := 0) (pc := 22) C dX12_isNoPrefix_22 rfl ?_
      refine v_goto (tgt := 27) (pc := 23) C dX12_isNoPrefix_23 (by decide) ?_
      refine v_callV (pc := 27) C (40, 0) ck_40 rfl (c_X12_isWrong hG (0) ) 1 wd_1531 wd_68 wd_1528 wd_1530 wd_35 (by decide +kernel) (by decide) (by decide) rfl ([]) rfl (Nat.le_of_ble_eq_true rfl) (by decide) dX12_isNoPrefix_27 (fun _ _ _ q => q.elim) (fun v9 A9 h9 hR9 => ?_)
      obtain ⟨rfl, hA9, rfl⟩ := hR9
      obtain rfl := hA9.symm
      refine v_st (k2 := 0) (n2 := 0) (st2 := [.int ((V_X12_isWrong g (0)))]) rfl rfl rfl ?_
      exact v_zret (pc := 30) C (nar_b B_X12_isWrong) (by decide) (by decide) dX12_isNoPrefix_30 ⟨(congrArg (fun q => some (Value.int q)) (by show _ = _; rw [V_X12_isNoPrefix, if_neg c_2, if_neg c_4])), rfl, (congrArg (fun q => wm q r) (by show _ = _; rw [S_X12_isNoPrefix, if_neg c_2, if_neg c_4]))⟩
def VL_X12_goAway_46 (g : vS) (u : Int32) : Nat → Nat → Int32 → vS → Int32
  | 0, _, _, _ => 0
  | n + 1, i_46, x_46_2, q_46 => (if (g 2 0 0) ≤ nI i_46 then x_46_2 else (if (q_46 47 i_46 0) = 0 then (VL_X12_goAway_46 g u n (i_46 + 1) ((x_46_2 + 0)) q_46) else (VL_X12_goAway_46 g u n (i_46 + 1) ((x_46_2 + 1)) q_46)))
def SL_X12_goAway_46 (g : vS) (u : Int32) : Nat → Nat → Int32 → vS → vS
  | 0, _, _, q9 => q9
  | n + 1, i_46, x_46_2, q_46 => (if (g 2 0 0) ≤ nI i_46 then q_46 else (if (q_46 47 i_46 0) = 0 then (SL_X12_goAway_46 g u n (i_46 + 1) ((x_46_2 + 0)) q_46) else (SL_X12_goAway_46 g u n (i_46 + 1) ((x_46_2 + 1)) q_46)))
def V_X12_goAway (g : vS) (u : Int32) : Int32 := (if (V_X12_isUser g (u)) = 0 then 0 else (if (g 47 (u).toNatClampNeg 0) = 0 then (VL_X12_goAway_46 g u (6 + 1) 0 (0) (s3 (S_X12_isWrong g (0)) 47 (u).toNatClampNeg 0 (1))) else 0))
def S_X12_goAway (g : vS) (u : Int32) : vS := (if (V_X12_isUser g (u)) = 0 then (S_X12_isWrong g (1)) else (if (g 47 (u).toNatClampNeg 0) = 0 then (SL_X12_goAway_46 g u (6 + 1) 0 (0) (s3 (S_X12_isWrong g (0)) 47 (u).toNatClampNeg 0 (1))) else (S_X12_isWrong g (2))))
theorem FL_X12_goAway_46 {g : vS} {u : Int32} {c i j : Nat} (h1 : c ≠ 1) (h47 : c ≠ 47) : ∀ (n : Nat) (a0 : Nat) (a1 : Int32) (a2 : vS), a2 c i j = g c i j → SL_X12_goAway_46 g u n a0 a1 a2 c i j = g c i j := by
  intro n
  induction n with
  | zero => intro a0 a1 a2 hq9; exact hq9
  | succ n ih =>
    intro a0 a1 a2 hq9
    simp only [SL_X12_goAway_46]
    (repeat' split) <;> first | rfl | exact hq9 | (apply ih; first | exact hq9 | rfl | trivial | ((simp only [s3_k h1, s3_k h47, F_X12_isWrong h1]) <;> first | done | exact hq9 | rfl)) | ((simp only [s3_k h1, s3_k h47, F_X12_isWrong h1]) <;> first | done | exact hq9 | rfl)
theorem F_X12_goAway {g : vS} {u : Int32} {c i j : Nat} (h1 : c ≠ 1) (h47 : c ≠ 47) : S_X12_goAway g u c i j = g c i j := by
  unfold S_X12_goAway
  (repeat' split) <;> first | rfl | (apply FL_X12_goAway_46 h1 h47; first | rfl | trivial | ((simp only [s3_k h1, s3_k h47, F_X12_isWrong h1]) <;> first | done | rfl)) | ((simp only [s3_k h1, s3_k h47, F_X12_isWrong h1]) <;> first | done | rfl)
set_option maxHeartbeats 4000000 in
set_option maxRecDepth 100000 in
theorem c_X12_goAway {G : vG} (hG : G.1.stackTraces = false) {A : vN → Nat} {g : vS} {r : vH} (u : Int32) (hu0 : 0 ≤ (g 2 0 0).toInt) (hu : (g 2 0 0).toInt ≤ 6) (hg0 : 0 ≤ (g 3 0 0).toInt) (hg : (g 3 0 0).toInt ≤ 5) (hf0 : 0 ≤ (g 4 0 0).toInt) (hf : (g 4 0 0).toInt ≤ 20) : vCt G yX12_goAway cX12_goAway 4 (some .int) 2 [.ref (A (40, 0)), .int (u)] A (wm g r) (fun v A2 h2 => v = some (.int (V_X12_goAway g u)) ∧ A2 = A ∧ h2 = wm (S_X12_goAway g u) r) (vNoX) 0 0 := by
  refine v_of hG (by decide +kernel) (Nat.le_of_ble_eq_true rfl) (lv := [(0, .ref (A (40, 0))), (1, .int (u))]) rfl (fun X C hnx => ?_)
  have C : vC G X cX12_goAway 4 RX12 (some .int) "goAway" 2 0 0 := C
  refine v_aload_n (pc := 0) C dX12_goAway_0 0 rfl rfl ?_
  refine v_aload_n (pc := 1) C dX12_goAway_1 0 rfl rfl ?_
  refine v_iload_n (pc := 2) C dX12_goAway_2 1 rfl rfl ?_
  refine v_callV (pc := 3) C (40, 0) ck_40 rfl (c_X12_isUser hG (u) ) 1 wd_1539 wd_68 wd_1536 wd_1538 wd_36 (by decide +kernel) (by decide) (by decide) rfl ([.ref (A (40, 0))]) rfl (Nat.le_of_ble_eq_true rfl) (by decide) dX12_goAway_3 (fun _ _ _ q => q.elim) (fun v9 A9 h9 hR9 => ?_)
  obtain ⟨rfl, hA9, rfl⟩ := hR9
  obtain rfl := hA9.symm
  refine v_st (k2 := 0) (n2 := 0) (st2 := [.int ((V_X12_isUser g (u))), .ref (A (40, 0))]) rfl rfl rfl ?_
  have b_1 := ok_isUser (g := g) (x := u) hu0
  refine v_if_ne (pc := 6) (tgt := 13) C dX12_goAway_6 (by decide) (fun c_2 => ?_) (fun c_2 => ?_)
  · skip
    refine v_aload_n (pc := 13) C dX12_goAway_13 0 rfl rfl ?_
    refine v_get (pc := 14) C (40, 0) (v := .ref (A (47, 0))) ck_40 rfl 7 (by decide) inX12 wd_1395 rfl rfl dX12_goAway_14 ?_
    refine v_iload_n (pc := 17) C dX12_goAway_17 1 rfl rfl ?_
    refine v_zald (pc := 18) C (47, 0) (v := (g 47 (u).toNatClampNeg 0)) ck_47 (by (try simp only [Int32.le_iff_toInt_le, Int32.lt_iff_toInt_lt, ← Int32.toInt_inj, vp_in_iff, Int32.reduceToInt] at c_2 b_1 hu hg hf ⊢) <;> omega) rfl dX12_goAway_18 ?_
    refine v_if_eq (pc := 19) (tgt := 26) C dX12_goAway_19 (by decide) (fun c_3 => ?_) (fun c_3 => ?_)
    · skip
      refine v_iconst (v := 0) (pc := 26) C dX12_goAway_26 rfl ?_
      refine v_callV (pc := 27) C (40, 0) ck_40 rfl (c_X12_isWrong hG (0) ) 1 wd_1531 wd_68 wd_1528 wd_1530 wd_35 (by decide +kernel) (by decide) (by decide) rfl ([]) rfl (Nat.le_of_ble_eq_true rfl) (by decide) dX12_goAway_27 (fun _ _ _ q => q.elim) (fun v9 A9 h9 hR9 => ?_)
      obtain ⟨rfl, hA9, rfl⟩ := hR9
      obtain rfl := hA9.symm
      refine v_st (k2 := 0) (n2 := 0) (st2 := [.int ((V_X12_isWrong g (0)))]) rfl rfl rfl ?_
      refine v_if_eq (pc := 30) (tgt := 35) C dX12_goAway_30 (by decide) (fun c_4 => ?_) (fun c_4 => ?_)
      · skip
        refine v_aload_n (pc := 35) C dX12_goAway_35 0 rfl rfl ?_
        refine v_get (pc := 36) C (40, 0) (v := .ref (A (47, 0))) ck_40 rfl 7 (by decide) inX12 wd_1395 rfl rfl dX12_goAway_36 ?_
        refine v_iload_n (pc := 39) C dX12_goAway_39 1 rfl rfl ?_
        refine v_iconst (v := 1) (pc := 40) C dX12_goAway_40 rfl ?_
        refine v_zast (pc := 41) C (47, 0) (x := 1) ck_47 (by (try simp only [Int32.le_iff_toInt_le, Int32.lt_iff_toInt_lt, ← Int32.toInt_inj, vp_in_iff, Int32.reduceToInt] at c_2 c_3 c_4 b_1 hu hg hf ⊢) <;> omega) (by decide) dX12_goAway_41 ?_
        refine v_h (h2 := (wm (s3 (S_X12_isWrong g (0)) 47 (u).toNatClampNeg 0 (1)) r)) (u_47_a) ?_
        refine v_iconst (v := 0) (pc := 42) C dX12_goAway_42 rfl ?_
        refine v_istore_n (lv2 := [(2, .int (0)), (0, .ref (A (40, 0))), (1, .int (u))]) (pc := 43) C dX12_goAway_43 rfl (by decide) rfl ?_
        refine v_iconst (v := 0) (pc := 44) C dX12_goAway_44 rfl ?_
        refine v_istore_n (lv2 := [(3, .int (0)), (2, .int (0)), (0, .ref (A (40, 0))), (1, .int (u))]) (pc := 45) C dX12_goAway_45 rfl (by decide) rfl ?_
        have L_46 : ∀ (n : Nat) (i_46 : Nat) (x_46_2 : Int32) (q_46 : vS), i_46 ≤ 6 → 6 + 1 ≤ i_46 + n → (∀ (c i j : Nat), c ≠ 1 → c ≠ 47 → q_46 c i j = g c i j) → (V_X12_goAway g u) = VL_X12_goAway_46 g u n i_46 x_46_2 q_46 → (S_X12_goAway g u) = SL_X12_goAway_46 g u n i_46 x_46_2 q_46 → V G 4 X A (wm q_46 r) 0 0 (vM G X (fun v A2 h2 => v = some (.int (V_X12_goAway g u)) ∧ A2 = A ∧ h2 = wm (S_X12_goAway g u) r) (vNoX) 0 0) 46 [(3, .int (nI i_46)), (2, .int (x_46_2)), (0, .ref (A (40, 0))), (1, .int (u))] [] := by
          intro n
          induction n with
          | zero => intro i_46 x_46_2 q_46 hi_46 hc_46 hF_46 eV_46 eS_46; exact absurd hc_46 (by omega)
          | succ n ih =>
            intro i_46 x_46_2 q_46 hi_46 hc_46 hF_46 eV_46 eS_46
            have hq_46 : (nI i_46).toInt = (i_46 : Int) := nI_toInt (by omega)
            have hr_46 : (nI (i_46 + 1)).toInt = ((i_46 + 1 : Nat) : Int) := nI_toInt (by omega)
            refine v_iload_n (pc := 46) C dX12_goAway_46 0 rfl rfl ?_
            refine v_aload_n (pc := 47) C dX12_goAway_47 2 rfl rfl ?_
            refine v_get (pc := 48) C (40, 0) (v := .int ((g 2 0 0))) ck_40 rfl 13 (by decide) inX12 wd_1401 rfl (congrArg Value.int (hF_46 _ _ _ (by decide) (by decide))) dX12_goAway_48 ?_
            refine v_icmp_ge (pc := 51) (tgt := 77) C dX12_goAway_51 (by decide) (fun c_5 => ?_) (fun c_5 => ?_)
            · skip
              refine v_iload_n (pc := 77) C dX12_goAway_77 1 rfl rfl ?_
              exact v_iret (pc := 78) C (by decide) (by decide) dX12_goAway_78 ⟨(congrArg (fun q => some (Value.int q)) (by show _ = _; rw [eV_46, VL_X12_goAway_46, if_pos c_5])), rfl, (congrArg (fun q => wm q r) (by show _ = _; rw [eS_46, SL_X12_goAway_46, if_pos c_5]))⟩
            · skip
              refine v_iload_n (pc := 54) C dX12_goAway_54 1 rfl rfl ?_
              refine v_aload_n (pc := 55) C dX12_goAway_55 2 rfl rfl ?_
              refine v_get (pc := 56) C (40, 0) (v := .ref (A (47, 0))) ck_40 rfl 7 (by decide) inX12 wd_1395 rfl rfl dX12_goAway_56 ?_
              refine v_iload_n (pc := 59) C dX12_goAway_59 0 rfl rfl ?_
              refine v_zald (pc := 60) C (47, 0) (v := (q_46 47 i_46 0)) ck_47 (by (try simp only [Int32.le_iff_toInt_le, Int32.lt_iff_toInt_lt, ← Int32.toInt_inj, vp_in_iff, Int32.reduceToInt] at c_2 c_3 c_4 c_5 b_1 hq_46 hr_46 hu hg hf ⊢) <;> omega) ((congrArg (fun k => q_46 47 k 0) (show (nI i_46 : Int32).toNatClampNeg = i_46 from (nI_clamp (by omega)))).trans rfl) dX12_goAway_60 ?_
              refine v_if_eq (pc := 61) (tgt := 68) C dX12_goAway_61 (by decide) (fun c_6 => ?_) (fun c_6 => ?_)
              · skip
                refine v_iconst (v := 0) (pc := 68) C dX12_goAway_68 rfl ?_
                refine v_iadd (pc := 69) C dX12_goAway_69 ?_
                refine v_istore_n (lv2 := [(2, .int ((x_46_2 + 0))), (3, .int (nI i_46)), (0, .ref (A (40, 0))), (1, .int (u))]) (pc := 70) C dX12_goAway_70 rfl (by decide) rfl ?_
                refine v_iinc (v := nI (i_46 + 1)) (lv2 := [(3, .int (nI (i_46 + 1))), (2, .int ((x_46_2 + 0))), (0, .ref (A (40, 0))), (1, .int (u))]) (pc := 71) C dX12_goAway_71 1 rfl (nI_1 _) (by decide) rfl ?_
                refine v_goto (tgt := 46) (pc := 74) C dX12_goAway_74 (by decide) ?_
                refine v_lv (lv2 := [(3, .int (nI (i_46 + 1))), (2, .int ((x_46_2 + 0))), (0, .ref (A (40, 0))), (1, .int (u))]) [0, 1, 2, 3] rfl ?_
                exact ih (i_46 + 1) ((x_46_2 + 0)) q_46 (by (try simp only [Int32.le_iff_toInt_le, Int32.lt_iff_toInt_lt, ← Int32.toInt_inj, vp_in_iff, Int32.reduceToInt] at c_2 c_3 c_4 c_5 c_6 b_1 hq_46 hr_46 hu hg hf ⊢) <;> omega) (by omega) (fun c i j h1 h47 => hF_46 c i j h1 h47) (by rw [eV_46, VL_X12_goAway_46, if_neg c_5, if_pos c_6]) (by rw [eS_46, SL_X12_goAway_46, if_neg c_5, if_pos c_6])
              · skip
                refine v_iconst (v := 1) (pc := 64) C dX12_goAway_64 rfl ?_
                refine v_goto (tgt := 69) (pc := 65) C dX12_goAway_65 (by decide) ?_
                refine v_iadd (pc := 69) C dX12_goAway_69 ?_
                refine v_istore_n (lv2 := [(2, .int ((x_46_2 + 1))), (3, .int (nI i_46)), (0, .ref (A (40, 0))), (1, .int (u))]) (pc := 70) C dX12_goAway_70 rfl (by decide) rfl ?_
                refine v_iinc (v := nI (i_46 + 1)) (lv2 := [(3, .int (nI (i_46 + 1))), (2, .int ((x_46_2 + 1))), (0, .ref (A (40, 0))), (1, .int (u))]) (pc := 71) C dX12_goAway_71 1 rfl (nI_1 _) (by decide) rfl ?_
                refine v_goto (tgt := 46) (pc := 74) C dX12_goAway_74 (by decide) ?_
                refine v_lv (lv2 := [(3, .int (nI (i_46 + 1))), (2, .int ((x_46_2 + 1))), (0, .ref (A (40, 0))), (1, .int (u))]) [0, 1, 2, 3] rfl ?_
                exact ih (i_46 + 1) ((x_46_2 + 1)) q_46 (by (try simp only [Int32.le_iff_toInt_le, Int32.lt_iff_toInt_lt, ← Int32.toInt_inj, vp_in_iff, Int32.reduceToInt] at c_2 c_3 c_4 c_5 c_6 b_1 hq_46 hr_46 hu hg hf ⊢) <;> omega) (by omega) (fun c i j h1 h47 => hF_46 c i j h1 h47) (by rw [eV_46, VL_X12_goAway_46, if_neg c_5, if_neg c_6]) (by rw [eS_46, SL_X12_goAway_46, if_neg c_5, if_neg c_6])
        exact L_46 (6 + 1) 0 (0) (s3 (S_X12_isWrong g (0)) 47 (u).toNatClampNeg 0 (1)) (by omega) (by omega) (fun c i j h1 h47 => (s3_k h47).trans (F_X12_isWrong h1)) (by rw [V_X12_goAway, if_neg c_2, if_pos c_3]) (by rw [S_X12_goAway, if_neg c_2, if_pos c_3])
      · skip
        exact absurd c_4 (fun q9 => q9 ((show (0 : Int32) = 0 from rfl)))
    · skip
      refine v_iconst (v := 2) (pc := 22) C dX12_goAway_22 rfl ?_
      refine v_goto (tgt := 27) (pc := 23) C dX12_goAway_23 (by decide) ?_
      refine v_callV (pc := 27) C (40, 0) ck_40 rfl (c_X12_isWrong hG (2) ) 1 wd_1531 wd_68 wd_1528 wd_1530 wd_35 (by decide +kernel) (by decide) (by decide) rfl ([]) rfl (Nat.le_of_ble_eq_true rfl) (by decide) dX12_goAway_27 (fun _ _ _ q => q.elim) (fun v9 A9 h9 hR9 => ?_)
      obtain ⟨rfl, hA9, rfl⟩ := hR9
      obtain rfl := hA9.symm
      refine v_st (k2 := 0) (n2 := 0) (st2 := [.int ((V_X12_isWrong g (2)))]) rfl rfl rfl ?_
      refine v_if_eq (pc := 30) (tgt := 35) C dX12_goAway_30 (by decide) (fun c_7 => ?_) (fun c_7 => ?_)
      · skip
        exact absurd c_7 (fun q9 => ((show ¬ (1 : Int32) = 0 from by decide)) q9)
      · skip
        refine v_iconst (v := 0) (pc := 33) C dX12_goAway_33 rfl ?_
        exact v_iret (pc := 34) C (by decide) (by decide) dX12_goAway_34 ⟨(congrArg (fun q => some (Value.int q)) (by show _ = _; rw [V_X12_goAway, if_neg c_2, if_neg c_3])), rfl, (congrArg (fun q => wm q r) (by show _ = _; rw [S_X12_goAway, if_neg c_2, if_neg c_3]))⟩
  · skip
    refine v_iconst (v := 1) (pc := 9) C dX12_goAway_9 rfl ?_
    refine v_goto (tgt := 27) (pc := 10) C dX12_goAway_10 (by decide) ?_
    refine v_callV (pc := 27) C (40, 0) ck_40 rfl (c_X12_isWrong hG (1) ) 1 wd_1531 wd_68 wd_1528 wd_1530 wd_35 (by decide +kernel) (by decide) (by decide) rfl ([]) rfl (Nat.le_of_ble_eq_true rfl) (by decide) dX12_goAway_27 (fun _ _ _ q => q.elim) (fun v9 A9 h9 hR9 => ?_)
    obtain ⟨rfl, hA9, rfl⟩ := hR9
    obtain rfl := hA9.symm
    refine v_st (k2 := 0) (n2 := 0) (st2 := [.int ((V_X12_isWrong g (1)))]) rfl rfl rfl ?_
    refine v_if_eq (pc := 30) (tgt := 35) C dX12_goAway_30 (by decide) (fun c_8 => ?_) (fun c_8 => ?_)
    · skip
      exact absurd c_8 (fun q9 => ((show ¬ (1 : Int32) = 0 from by decide)) q9)
    · skip
      refine v_iconst (v := 0) (pc := 33) C dX12_goAway_33 rfl ?_
      exact v_iret (pc := 34) C (by decide) (by decide) dX12_goAway_34 ⟨(congrArg (fun q => some (Value.int q)) (by show _ = _; rw [V_X12_goAway, if_pos c_2])), rfl, (congrArg (fun q => wm q r) (by show _ = _; rw [S_X12_goAway, if_pos c_2]))⟩
def V_X12_conflictAt (g : vS) (x : Int32) : Int32 := (if (V_X12_isBetween g (x) (0) (((g 12 0 0) - 1))) = 0 then 0 else (g 82 (x).toNatClampNeg 0))
def S_X12_conflictAt (g : vS) (x : Int32) : vS := (if (V_X12_isBetween g (x) (0) (((g 12 0 0) - 1))) = 0 then (S_X12_isWrong g (1)) else (S_X12_isWrong g (0)))
theorem F_X12_conflictAt {g : vS} {x : Int32} {c i j : Nat} (h1 : c ≠ 1) : S_X12_conflictAt g x c i j = g c i j := by
  unfold S_X12_conflictAt
  (repeat' split) <;> first | rfl | ((simp only [s3_k h1, F_X12_isWrong h1]) <;> first | done | rfl)
set_option maxHeartbeats 4000000 in
set_option maxRecDepth 100000 in
theorem c_X12_conflictAt {G : vG} (hG : G.1.stackTraces = false) {A : vN → Nat} {g : vS} {r : vH} (x : Int32) (hu0 : 0 ≤ (g 2 0 0).toInt) (hu : (g 2 0 0).toInt ≤ 6) (hg0 : 0 ≤ (g 3 0 0).toInt) (hg : (g 3 0 0).toInt ≤ 5) (hf0 : 0 ≤ (g 4 0 0).toInt) (hf : (g 4 0 0).toInt ≤ 20) (hc0 : 0 ≤ (g 12 0 0).toInt) (hc9 : (g 12 0 0).toInt ≤ 10) : vCt G yX12_conflictAt cX12_conflictAt 2 (some .int) 1 [.ref (A (40, 0)), .int (x)] A (wm g r) (fun v A2 h2 => v = some (.int (V_X12_conflictAt g x)) ∧ A2 = A ∧ h2 = wm (S_X12_conflictAt g x) r) (vNoX) 0 0 := by
  refine v_of hG (by decide +kernel) (Nat.le_of_ble_eq_true rfl) (lv := [(0, .ref (A (40, 0))), (1, .int (x))]) rfl (fun X C hnx => ?_)
  have C : vC G X cX12_conflictAt 2 RX12 (some .int) "conflictAt" 1 0 0 := C
  refine v_aload_n (pc := 0) C dX12_conflictAt_0 0 rfl rfl ?_
  refine v_iload_n (pc := 1) C dX12_conflictAt_1 1 rfl rfl ?_
  refine v_iconst (v := 0) (pc := 2) C dX12_conflictAt_2 rfl ?_
  refine v_aload_n (pc := 3) C dX12_conflictAt_3 0 rfl rfl ?_
  refine v_get (pc := 4) C (40, 0) (v := .int ((g 12 0 0))) ck_40 rfl 43 (by decide) inX12 wd_1431 rfl rfl dX12_conflictAt_4 ?_
  refine v_iconst (v := 1) (pc := 7) C dX12_conflictAt_7 rfl ?_
  refine v_isub (pc := 8) C dX12_conflictAt_8 ?_
  refine v_callS (pc := 9) C (c_X12_isBetween hG (x) (0) (((g 12 0 0) - 1)) ) 3 wd_1527 wd_68 wd_1525 wd_1526 (by decide +kernel) (by decide) (by decide) rfl ([.ref (A (40, 0))]) rfl (Nat.le_of_ble_eq_true rfl) (by decide) dX12_conflictAt_9 (fun _ _ _ q => q.elim) (fun v9 A9 h9 hR9 => ?_)
  obtain ⟨rfl, hA9, rfl⟩ := hR9
  obtain rfl := hA9.symm
  refine v_st (k2 := 0) (n2 := 0) (st2 := [.int ((V_X12_isBetween g (x) (0) (((g 12 0 0) - 1)))), .ref (A (40, 0))]) rfl rfl rfl ?_
  have b_1 := ok_btw (g := g) (x := x) (a := 0) (b := ((g 12 0 0) - 1))
  have b_2 : (((g 12 0 0) - 1)).toInt = (g 12 0 0).toInt - 1 := i32_sub1 hc0
  refine v_if_eq (pc := 12) (tgt := 19) C dX12_conflictAt_12 (by decide) (fun c_3 => ?_) (fun c_3 => ?_)
  · skip
    refine v_iconst (v := 1) (pc := 19) C dX12_conflictAt_19 rfl ?_
    refine v_callV (pc := 20) C (40, 0) ck_40 rfl (c_X12_isWrong hG (1) ) 1 wd_1531 wd_68 wd_1528 wd_1530 wd_35 (by decide +kernel) (by decide) (by decide) rfl ([]) rfl (Nat.le_of_ble_eq_true rfl) (by decide) dX12_conflictAt_20 (fun _ _ _ q => q.elim) (fun v9 A9 h9 hR9 => ?_)
    obtain ⟨rfl, hA9, rfl⟩ := hR9
    obtain rfl := hA9.symm
    refine v_st (k2 := 0) (n2 := 0) (st2 := [.int ((V_X12_isWrong g (1)))]) rfl rfl rfl ?_
    refine v_if_eq (pc := 23) (tgt := 30) C dX12_conflictAt_23 (by decide) (fun c_4 => ?_) (fun c_4 => ?_)
    · skip
      exact absurd c_4 (fun q9 => ((show ¬ (1 : Int32) = 0 from by decide)) q9)
    · skip
      refine v_iconst (v := 0) (pc := 26) C dX12_conflictAt_26 rfl ?_
      refine v_goto (tgt := 36) (pc := 27) C dX12_conflictAt_27 (by decide) ?_
      exact v_iret (pc := 36) C (by decide) (by decide) dX12_conflictAt_36 ⟨(congrArg (fun q => some (Value.int q)) (by show _ = _; rw [V_X12_conflictAt, if_pos c_3])), rfl, (congrArg (fun q => wm q r) (by show _ = _; rw [S_X12_conflictAt, if_pos c_3]))⟩
  · skip
    refine v_iconst (v := 0) (pc := 15) C dX12_conflictAt_15 rfl ?_
    refine v_goto (tgt := 20) (pc := 16) C dX12_conflictAt_16 (by decide) ?_
    refine v_callV (pc := 20) C (40, 0) ck_40 rfl (c_X12_isWrong hG (0) ) 1 wd_1531 wd_68 wd_1528 wd_1530 wd_35 (by decide +kernel) (by decide) (by decide) rfl ([]) rfl (Nat.le_of_ble_eq_true rfl) (by decide) dX12_conflictAt_20 (fun _ _ _ q => q.elim) (fun v9 A9 h9 hR9 => ?_)
    obtain ⟨rfl, hA9, rfl⟩ := hR9
    obtain rfl := hA9.symm
    refine v_st (k2 := 0) (n2 := 0) (st2 := [.int ((V_X12_isWrong g (0)))]) rfl rfl rfl ?_
    refine v_if_eq (pc := 23) (tgt := 30) C dX12_conflictAt_23 (by decide) (fun c_5 => ?_) (fun c_5 => ?_)
    · skip
      refine v_aload_n (pc := 30) C dX12_conflictAt_30 0 rfl rfl ?_
      refine v_get (pc := 31) C (40, 0) (v := .ref (A (82, 0))) ck_40 rfl 42 (by decide) inX12 wd_1430 rfl rfl dX12_conflictAt_31 ?_
      refine v_iload_n (pc := 34) C dX12_conflictAt_34 1 rfl rfl ?_
      refine v_iald (pc := 35) C (82, 0) (v := (g 82 (x).toNatClampNeg 0)) ck_82 (by (try simp only [Int32.le_iff_toInt_le, Int32.lt_iff_toInt_lt, ← Int32.toInt_inj, vp_in_iff, Int32.reduceToInt] at c_3 c_5 b_1 b_2 hu hg hf hc0 hc9 ⊢) <;> omega) (F_X12_isWrong (by decide)) dX12_conflictAt_35 ?_
      exact v_iret (pc := 36) C (by decide) (by decide) dX12_conflictAt_36 ⟨(congrArg (fun q => some (Value.int q)) (by show _ = _; rw [V_X12_conflictAt, if_neg c_3])), rfl, (congrArg (fun q => wm q r) (by show _ = _; rw [S_X12_conflictAt, if_neg c_3]))⟩
    · skip
      exact absurd c_5 (fun q9 => q9 ((show (0 : Int32) = 0 from rfl)))
