def V_X12_thrown (g : vS)  : Int32 := (g 1 0 0)
set_option maxHeartbeats 4000000 in
set_option maxRecDepth 100000 in
theorem c_X12_thrown {G : vG} (hG : G.1.stackTraces = false) {A : vN → Nat} {g : vS} {r : vH}   : vCt G yX12_thrown cX12_thrown 1 (some .int) 0 [.ref (A (40, 0))] A (wm g r) (fun v A2 h2 => v = some (.int (V_X12_thrown g)) ∧ A2 = A ∧ h2 = wm g r) (vNoX) 0 0 := by
  refine v_of hG (by decide +kernel) (Nat.le_of_ble_eq_true rfl) (lv := [(0, .ref (A (40, 0)))]) rfl (fun X C hnx => ?_)
  have C : vC G X cX12_thrown 1 RX12 (some .int) "thrown" 0 0 0 := C
  refine v_aload_n (pc := 0) C dX12_thrown_0 0 rfl rfl ?_
  refine v_get (pc := 1) C (40, 0) (v := .int ((g 1 0 0))) ck_40 rfl 0 (by decide) inX12 wd_1385 rfl rfl dX12_thrown_1 ?_
  exact v_iret (pc := 4) C (by decide) (by decide) dX12_thrown_4 ⟨(congrArg (fun q => some (Value.int q)) (by show _ = _; rw [V_X12_thrown])), rfl, rfl⟩
def V_X12_isWrong (g : vS) (x : Int32) : Int32 := (if x ≤ 0 then 0 else 1)
theorem B_X12_isWrong {g : vS} {x : Int32} : V_X12_isWrong g x = 0 ∨ V_X12_isWrong g x = 1 := by
  unfold V_X12_isWrong
  (repeat' split) <;> first | exact Or.inl rfl | exact Or.inr rfl
def S_X12_isWrong (g : vS) (x : Int32) : vS := (s3 g 1 0 0 (x))
theorem F_X12_isWrong {g : vS} {x : Int32} {c i j : Nat} (h1 : c ≠ 1) : S_X12_isWrong g x c i j = g c i j := by
  unfold S_X12_isWrong
  (repeat' split) <;> first | rfl | ((simp only [s3_k h1]) <;> first | done | rfl)
set_option maxHeartbeats 4000000 in
set_option maxRecDepth 100000 in
theorem c_X12_isWrong {G : vG} (hG : G.1.stackTraces = false) {A : vN → Nat} {g : vS} {r : vH} (x : Int32)  : vCt G yX12_isWrong cX12_isWrong 2 (some .boolean) 0 [.ref (A (40, 0)), .int (x)] A (wm g r) (fun v A2 h2 => v = some (.int (V_X12_isWrong g x)) ∧ A2 = A ∧ h2 = wm (S_X12_isWrong g x) r) (vNoX) 0 0 := by
  refine v_of hG (by decide +kernel) (Nat.le_of_ble_eq_true rfl) (lv := [(0, .ref (A (40, 0))), (1, .int (x))]) rfl (fun X C hnx => ?_)
  have C : vC G X cX12_isWrong 2 RX12 (some .boolean) "isWrong" 0 0 0 := C
  refine v_aload_n (pc := 0) C dX12_isWrong_0 0 rfl rfl ?_
  refine v_iload_n (pc := 1) C dX12_isWrong_1 1 rfl rfl ?_
  refine v_put (pc := 2) C (40, 0) (v := .int (x)) ck_40 rfl 0 (by decide) inX12 tyX12 tyX12_ok nmX12 wd_1385 rfl (.inl (Value.int (x))) rfl (ty := tyX12 0) (by decide +kernel) rfl rfl (Nat.le_of_ble_eq_true rfl) dX12_isWrong_2 ?_
  refine v_h (h2 := (wm (s3 g 1 0 0 (x)) r)) (u_40_0) ?_
  refine v_iload_n (pc := 5) C dX12_isWrong_5 1 rfl rfl ?_
  refine v_if_le (pc := 6) (tgt := 13) C dX12_isWrong_6 (by decide) (fun c_1 => ?_) (fun c_1 => ?_)
  · skip
    refine v_iconst (v := 0) (pc := 13) C dX12_isWrong_13 rfl ?_
    exact v_zret (pc := 14) C rfl (by decide) (by decide) dX12_isWrong_14 ⟨(congrArg (fun q => some (Value.int q)) (by show _ = _; rw [V_X12_isWrong, if_pos c_1])), rfl, (congrArg (fun q => wm q r) (by show _ = _; rw [S_X12_isWrong]))⟩
  · skip
    refine v_iconst (v := 1) (pc := 9) C dX12_isWrong_9 rfl ?_
    refine v_goto (tgt := 14) (pc := 10) C dX12_isWrong_10 (by decide) ?_
    exact v_zret (pc := 14) C rfl (by decide) (by decide) dX12_isWrong_14 ⟨(congrArg (fun q => some (Value.int q)) (by show _ = _; rw [V_X12_isWrong, if_neg c_1])), rfl, (congrArg (fun q => wm q r) (by show _ = _; rw [S_X12_isWrong]))⟩
def V_X12_isBetween (g : vS) (x : Int32) (a : Int32) (b : Int32) : Int32 := (if x < a then 0 else (if b < x then 0 else 1))
theorem B_X12_isBetween {g : vS} {x : Int32} {a : Int32} {b : Int32} : V_X12_isBetween g x a b = 0 ∨ V_X12_isBetween g x a b = 1 := by
  unfold V_X12_isBetween
  (repeat' split) <;> first | exact Or.inl rfl | exact Or.inr rfl
set_option maxHeartbeats 4000000 in
set_option maxRecDepth 100000 in
theorem c_X12_isBetween {G : vG} (hG : G.1.stackTraces = false) {A : vN → Nat} {g : vS} {r : vH} (x : Int32) (a : Int32) (b : Int32)  : vCt G yX12_isBetween cX12_isBetween 3 (some .boolean) 0 [.int (x), .int (a), .int (b)] A (wm g r) (fun v A2 h2 => v = some (.int (V_X12_isBetween g x a b)) ∧ A2 = A ∧ h2 = wm g r) (vNoX) 0 0 := by
  refine v_of hG (by decide +kernel) (Nat.le_of_ble_eq_true rfl) (lv := [(0, .int (x)), (1, .int (a)), (2, .int (b))]) rfl (fun X C hnx => ?_)
  have C : vC G X cX12_isBetween 3 RX12 (some .boolean) "isBetween" 0 0 0 := C
  refine v_iload_n (pc := 0) C dX12_isBetween_0 1 rfl rfl ?_
  refine v_iload_n (pc := 1) C dX12_isBetween_1 0 rfl rfl ?_
  refine v_icmp_gt (pc := 2) (tgt := 14) C dX12_isBetween_2 (by decide) (fun c_1 => ?_) (fun c_1 => ?_)
  · skip
    refine v_iconst (v := 0) (pc := 14) C dX12_isBetween_14 rfl ?_
    exact v_zret (pc := 15) C rfl (by decide) (by decide) dX12_isBetween_15 ⟨(congrArg (fun q => some (Value.int q)) (by show _ = _; rw [V_X12_isBetween, if_pos c_1])), rfl, rfl⟩
  · skip
    refine v_iload_n (pc := 5) C dX12_isBetween_5 0 rfl rfl ?_
    refine v_iload_n (pc := 6) C dX12_isBetween_6 2 rfl rfl ?_
    refine v_icmp_gt (pc := 7) (tgt := 14) C dX12_isBetween_7 (by decide) (fun c_2 => ?_) (fun c_2 => ?_)
    · skip
      refine v_iconst (v := 0) (pc := 14) C dX12_isBetween_14 rfl ?_
      exact v_zret (pc := 15) C rfl (by decide) (by decide) dX12_isBetween_15 ⟨(congrArg (fun q => some (Value.int q)) (by show _ = _; rw [V_X12_isBetween, if_neg c_1, if_pos c_2])), rfl, rfl⟩
    · skip
      refine v_iconst (v := 1) (pc := 10) C dX12_isBetween_10 rfl ?_
      refine v_goto (tgt := 15) (pc := 11) C dX12_isBetween_11 (by decide) ?_
      exact v_zret (pc := 15) C rfl (by decide) (by decide) dX12_isBetween_15 ⟨(congrArg (fun q => some (Value.int q)) (by show _ = _; rw [V_X12_isBetween, if_neg c_1, if_neg c_2])), rfl, rfl⟩
def V_X12_isUser (g : vS) (x : Int32) : Int32 := (V_X12_isBetween g (x) (0) (((g 2 0 0) - 1)))
theorem B_X12_isUser {g : vS} {x : Int32} : V_X12_isUser g x = 0 ∨ V_X12_isUser g x = 1 := by
  unfold V_X12_isUser
  (repeat' split) <;> first | exact Or.inl rfl | exact Or.inr rfl | exact B_X12_isBetween
set_option maxHeartbeats 4000000 in
set_option maxRecDepth 100000 in
theorem c_X12_isUser {G : vG} (hG : G.1.stackTraces = false) {A : vN → Nat} {g : vS} {r : vH} (x : Int32)  : vCt G yX12_isUser cX12_isUser 2 (some .boolean) 1 [.ref (A (40, 0)), .int (x)] A (wm g r) (fun v A2 h2 => v = some (.int (V_X12_isUser g x)) ∧ A2 = A ∧ h2 = wm g r) (vNoX) 0 0 := by
  refine v_of hG (by decide +kernel) (Nat.le_of_ble_eq_true rfl) (lv := [(0, .ref (A (40, 0))), (1, .int (x))]) rfl (fun X C hnx => ?_)
  have C : vC G X cX12_isUser 2 RX12 (some .boolean) "isUser" 1 0 0 := C
  refine v_iload_n (pc := 0) C dX12_isUser_0 1 rfl rfl ?_
  refine v_iconst (v := 0) (pc := 1) C dX12_isUser_1 rfl ?_
  refine v_aload_n (pc := 2) C dX12_isUser_2 0 rfl rfl ?_
  refine v_get (pc := 3) C (40, 0) (v := .int ((g 2 0 0))) ck_40 rfl 13 (by decide) inX12 wd_1398 rfl rfl dX12_isUser_3 ?_
  refine v_iconst (v := 1) (pc := 6) C dX12_isUser_6 rfl ?_
  refine v_isub (pc := 7) C dX12_isUser_7 ?_
  refine v_callS (pc := 8) C (c_X12_isBetween hG (x) (0) (((g 2 0 0) - 1)) ) 3 wd_1524 wd_68 wd_1522 wd_1523 (by decide +kernel) (by decide) (by decide) rfl ([]) rfl (Nat.le_of_ble_eq_true rfl) (by decide) dX12_isUser_8 (fun _ _ _ q => q.elim) (fun v9 A9 h9 hR9 => ?_)
  obtain ⟨rfl, hA9, rfl⟩ := hR9
  obtain rfl := hA9.symm
  refine v_st (k2 := 0) (n2 := 0) (st2 := [.int ((V_X12_isBetween g (x) (0) (((g 2 0 0) - 1))))]) rfl rfl rfl ?_
  exact v_zret (pc := 11) C (nar_b B_X12_isBetween) (by decide) (by decide) dX12_isUser_11 ⟨(congrArg (fun q => some (Value.int q)) (by show _ = _; rw [V_X12_isUser])), rfl, rfl⟩
def V_X12_isGroup (g : vS) (x : Int32) : Int32 := (V_X12_isBetween g (x) (0) (((g 3 0 0) - 1)))
theorem B_X12_isGroup {g : vS} {x : Int32} : V_X12_isGroup g x = 0 ∨ V_X12_isGroup g x = 1 := by
  unfold V_X12_isGroup
  (repeat' split) <;> first | exact Or.inl rfl | exact Or.inr rfl | exact B_X12_isBetween
set_option maxHeartbeats 4000000 in
set_option maxRecDepth 100000 in
theorem c_X12_isGroup {G : vG} (hG : G.1.stackTraces = false) {A : vN → Nat} {g : vS} {r : vH} (x : Int32)  : vCt G yX12_isGroup cX12_isGroup 2 (some .boolean) 1 [.ref (A (40, 0)), .int (x)] A (wm g r) (fun v A2 h2 => v = some (.int (V_X12_isGroup g x)) ∧ A2 = A ∧ h2 = wm g r) (vNoX) 0 0 := by
  refine v_of hG (by decide +kernel) (Nat.le_of_ble_eq_true rfl) (lv := [(0, .ref (A (40, 0))), (1, .int (x))]) rfl (fun X C hnx => ?_)
  have C : vC G X cX12_isGroup 2 RX12 (some .boolean) "isGroup" 1 0 0 := C
  refine v_iload_n (pc := 0) C dX12_isGroup_0 1 rfl rfl ?_
  refine v_iconst (v := 0) (pc := 1) C dX12_isGroup_1 rfl ?_
  refine v_aload_n (pc := 2) C dX12_isGroup_2 0 rfl rfl ?_
  refine v_get (pc := 3) C (40, 0) (v := .int ((g 3 0 0))) ck_40 rfl 14 (by decide) inX12 wd_1399 rfl rfl dX12_isGroup_3 ?_
  refine v_iconst (v := 1) (pc := 6) C dX12_isGroup_6 rfl ?_
  refine v_isub (pc := 7) C dX12_isGroup_7 ?_
  refine v_callS (pc := 8) C (c_X12_isBetween hG (x) (0) (((g 3 0 0) - 1)) ) 3 wd_1524 wd_68 wd_1522 wd_1523 (by decide +kernel) (by decide) (by decide) rfl ([]) rfl (Nat.le_of_ble_eq_true rfl) (by decide) dX12_isGroup_8 (fun _ _ _ q => q.elim) (fun v9 A9 h9 hR9 => ?_)
  obtain ⟨rfl, hA9, rfl⟩ := hR9
  obtain rfl := hA9.symm
  refine v_st (k2 := 0) (n2 := 0) (st2 := [.int ((V_X12_isBetween g (x) (0) (((g 3 0 0) - 1))))]) rfl rfl rfl ?_
  exact v_zret (pc := 11) C (nar_b B_X12_isBetween) (by decide) (by decide) dX12_isGroup_11 ⟨(congrArg (fun q => some (Value.int q)) (by show _ = _; rw [V_X12_isGroup])), rfl, rfl⟩
def V_X12_isFile (g : vS) (x : Int32) : Int32 := (V_X12_isBetween g (x) (0) (((g 4 0 0) - 1)))
theorem B_X12_isFile {g : vS} {x : Int32} : V_X12_isFile g x = 0 ∨ V_X12_isFile g x = 1 := by
  unfold V_X12_isFile
  (repeat' split) <;> first | exact Or.inl rfl | exact Or.inr rfl | exact B_X12_isBetween
set_option maxHeartbeats 4000000 in
set_option maxRecDepth 100000 in
theorem c_X12_isFile {G : vG} (hG : G.1.stackTraces = false) {A : vN → Nat} {g : vS} {r : vH} (x : Int32)  : vCt G yX12_isFile cX12_isFile 2 (some .boolean) 1 [.ref (A (40, 0)), .int (x)] A (wm g r) (fun v A2 h2 => v = some (.int (V_X12_isFile g x)) ∧ A2 = A ∧ h2 = wm g r) (vNoX) 0 0 := by
  refine v_of hG (by decide +kernel) (Nat.le_of_ble_eq_true rfl) (lv := [(0, .ref (A (40, 0))), (1, .int (x))]) rfl (fun X C hnx => ?_)
  have C : vC G X cX12_isFile 2 RX12 (some .boolean) "isFile" 1 0 0 := C
  refine v_iload_n (pc := 0) C dX12_isFile_0 1 rfl rfl ?_
  refine v_iconst (v := 0) (pc := 1) C dX12_isFile_1 rfl ?_
  refine v_aload_n (pc := 2) C dX12_isFile_2 0 rfl rfl ?_
  refine v_get (pc := 3) C (40, 0) (v := .int ((g 4 0 0))) ck_40 rfl 24 (by decide) inX12 wd_1409 rfl rfl dX12_isFile_3 ?_
  refine v_iconst (v := 1) (pc := 6) C dX12_isFile_6 rfl ?_
  refine v_isub (pc := 7) C dX12_isFile_7 ?_
  refine v_callS (pc := 8) C (c_X12_isBetween hG (x) (0) (((g 4 0 0) - 1)) ) 3 wd_1524 wd_68 wd_1522 wd_1523 (by decide +kernel) (by decide) (by decide) rfl ([]) rfl (Nat.le_of_ble_eq_true rfl) (by decide) dX12_isFile_8 (fun _ _ _ q => q.elim) (fun v9 A9 h9 hR9 => ?_)
  obtain ⟨rfl, hA9, rfl⟩ := hR9
  obtain rfl := hA9.symm
  refine v_st (k2 := 0) (n2 := 0) (st2 := [.int ((V_X12_isBetween g (x) (0) (((g 4 0 0) - 1))))]) rfl rfl rfl ?_
  exact v_zret (pc := 11) C (nar_b B_X12_isBetween) (by decide) (by decide) dX12_isFile_11 ⟨(congrArg (fun q => some (Value.int q)) (by show _ = _; rw [V_X12_isFile])), rfl, rfl⟩
def V_X12_isPart (g : vS) (x : Int32) : Int32 := (V_X12_isBetween g (x) (0) (7))
theorem B_X12_isPart {g : vS} {x : Int32} : V_X12_isPart g x = 0 ∨ V_X12_isPart g x = 1 := by
  unfold V_X12_isPart
  (repeat' split) <;> first | exact Or.inl rfl | exact Or.inr rfl | exact B_X12_isBetween
set_option maxHeartbeats 4000000 in
set_option maxRecDepth 100000 in
theorem c_X12_isPart {G : vG} (hG : G.1.stackTraces = false) {A : vN → Nat} {g : vS} {r : vH} (x : Int32)  : vCt G yX12_isPart cX12_isPart 1 (some .boolean) 1 [.int (x)] A (wm g r) (fun v A2 h2 => v = some (.int (V_X12_isPart g x)) ∧ A2 = A ∧ h2 = wm g r) (vNoX) 0 0 := by
  refine v_of hG (by decide +kernel) (Nat.le_of_ble_eq_true rfl) (lv := [(0, .int (x))]) rfl (fun X C hnx => ?_)
  have C : vC G X cX12_isPart 1 RX12 (some .boolean) "isPart" 1 0 0 := C
  refine v_iload_n (pc := 0) C dX12_isPart_0 0 rfl rfl ?_
  refine v_iconst (v := 0) (pc := 1) C dX12_isPart_1 rfl ?_
  refine v_bipush (v := 7) (pc := 2) C dX12_isPart_2 (by decide) ?_
  refine v_callS (pc := 4) C (c_X12_isBetween hG (x) (0) (7) ) 3 wd_1524 wd_68 wd_1522 wd_1523 (by decide +kernel) (by decide) (by decide) rfl ([]) rfl (Nat.le_of_ble_eq_true rfl) (by decide) dX12_isPart_4 (fun _ _ _ q => q.elim) (fun v9 A9 h9 hR9 => ?_)
  obtain ⟨rfl, hA9, rfl⟩ := hR9
  obtain rfl := hA9.symm
  refine v_st (k2 := 0) (n2 := 0) (st2 := [.int ((V_X12_isBetween g (x) (0) (7)))]) rfl rfl rfl ?_
  exact v_zret (pc := 7) C (nar_b B_X12_isBetween) (by decide) (by decide) dX12_isPart_7 ⟨(congrArg (fun q => some (Value.int q)) (by show _ = _; rw [V_X12_isPart])), rfl, rfl⟩
def V_X12_isFull (g : vS)  : Int32 := (if (g 11 0 0) = 300 then 1 else 0)
theorem B_X12_isFull {g : vS}  : V_X12_isFull g = 0 ∨ V_X12_isFull g = 1 := by
  unfold V_X12_isFull
  (repeat' split) <;> first | exact Or.inl rfl | exact Or.inr rfl
set_option maxHeartbeats 4000000 in
set_option maxRecDepth 100000 in
theorem c_X12_isFull {G : vG} (hG : G.1.stackTraces = false) {A : vN → Nat} {g : vS} {r : vH}   : vCt G yX12_isFull cX12_isFull 1 (some .boolean) 0 [.ref (A (40, 0))] A (wm g r) (fun v A2 h2 => v = some (.int (V_X12_isFull g)) ∧ A2 = A ∧ h2 = wm g r) (vNoX) 0 0 := by
  refine v_of hG (by decide +kernel) (Nat.le_of_ble_eq_true rfl) (lv := [(0, .ref (A (40, 0)))]) rfl (fun X C hnx => ?_)
  have C : vC G X cX12_isFull 1 RX12 (some .boolean) "isFull" 0 0 0 := C
  refine v_aload_n (pc := 0) C dX12_isFull_0 0 rfl rfl ?_
  refine v_get (pc := 1) C (40, 0) (v := .int ((g 11 0 0))) ck_40 rfl 36 (by decide) inX12 wd_1421 rfl rfl dX12_isFull_1 ?_
  refine v_sipush (v := 300) (pc := 4) C dX12_isFull_4 (by decide) ?_
  refine v_icmp_ne (pc := 7) (tgt := 14) C dX12_isFull_7 (by decide) (fun c_1 => ?_) (fun c_1 => ?_)
  · skip
    refine v_iconst (v := 0) (pc := 14) C dX12_isFull_14 rfl ?_
    exact v_zret (pc := 15) C rfl (by decide) (by decide) dX12_isFull_15 ⟨(congrArg (fun q => some (Value.int q)) (by show _ = _; rw [V_X12_isFull, if_neg c_1])), rfl, rfl⟩
  · skip
    refine v_iconst (v := 1) (pc := 10) C dX12_isFull_10 rfl ?_
    refine v_goto (tgt := 15) (pc := 11) C dX12_isFull_11 (by decide) ?_
    exact v_zret (pc := 15) C rfl (by decide) (by decide) dX12_isFull_15 ⟨(congrArg (fun q => some (Value.int q)) (by show _ = _; rw [V_X12_isFull, if_pos c_1])), rfl, rfl⟩
