def S_X2_note (g : vS) (x : Int32) (y : Int32) (zz : Int32) : vS := (if (g 11 0 0) < 0 then g else (if 517 ≤ (g 11 0 0) then g else (s3 (s3 (s3 g 85 ((g 11 0 0)).toNatClampNeg 0 (((x * 6) + y))) 86 ((g 11 0 0)).toNatClampNeg 0 (zz)) 11 0 0 (((g 11 0 0) + 1)))))
theorem F_X2_note {g : vS} {x : Int32} {y : Int32} {zz : Int32} {c i j : Nat} (h11 : c ≠ 11) (h85 : c ≠ 85) (h86 : c ≠ 86) : S_X2_note g x y zz c i j = g c i j := by
  unfold S_X2_note
  (repeat' split) <;> first | rfl | ((simp only [s3_k h11, s3_k h85, s3_k h86]) <;> first | done | rfl)
set_option maxHeartbeats 4000000 in
set_option maxRecDepth 100000 in
theorem c_X2_note {G : vG} (hG : G.1.stackTraces = false) {A : vN → Nat} {g : vS} {r : vH} (x : Int32) (y : Int32) (zz : Int32) (hz : vp_nar .boolean zz = zz) : vCt G yX2_note cX2_note 4 none 0 [.ref (A (7, 0)), .int (x), .int (y), .int (zz)] A (w g r) (fun v A2 h2 => v = none ∧ A2 = A ∧ h2 = w (S_X2_note g x y zz) r) (vNoX) 0 0 := by
  refine v_of hG (by decide +kernel) (Nat.le_of_ble_eq_true rfl) (lv := [(0, .ref (A (7, 0))), (1, .int (x)), (2, .int (y)), (3, .int (zz))]) rfl (fun X C hnx => ?_)
  have C : vC G X cX2_note 4 RX2 none "note" 0 0 0 := C
  refine v_aload_n (pc := 0) C dX2_note_0 0 rfl rfl ?_
  refine v_get (pc := 1) C (7, 0) (v := .int ((g 11 0 0))) ck_7 rfl 3 (by decide) inX2 wd_133 rfl rfl dX2_note_1 ?_
  refine v_if_lt (pc := 4) (tgt := 66) C dX2_note_4 (by decide) (fun c_1 => ?_) (fun c_1 => ?_)
  · skip
    exact v_vret (pc := 66) C (by decide) (by decide) dX2_note_66 ⟨rfl, rfl, (congrArg (fun q => w q r) (by show _ = _; rw [S_X2_note, if_pos c_1]))⟩
  · skip
    refine v_aload_n (pc := 7) C dX2_note_7 0 rfl rfl ?_
    refine v_get (pc := 8) C (7, 0) (v := .int ((g 11 0 0))) ck_7 rfl 3 (by decide) inX2 wd_133 rfl rfl dX2_note_8 ?_
    refine v_aload_n (pc := 11) C dX2_note_11 0 rfl rfl ?_
    refine v_get (pc := 12) C (7, 0) (v := .ref (A (8, 0))) ck_7 rfl 0 (by decide) inX2 wd_130 rfl rfl dX2_note_12 ?_
    refine v_alen (pc := 15) C (8, 0) (v := 517) ck_8 rfl (by decide) dX2_note_15 ?_
    refine v_icmp_ge (pc := 16) (tgt := 66) C dX2_note_16 (by decide) (fun c_2 => ?_) (fun c_2 => ?_)
    · skip
      exact v_vret (pc := 66) C (by decide) (by decide) dX2_note_66 ⟨rfl, rfl, (congrArg (fun q => w q r) (by show _ = _; rw [S_X2_note, if_neg c_1, if_pos c_2]))⟩
    · skip
      refine v_aload_n (pc := 19) C dX2_note_19 0 rfl rfl ?_
      refine v_get (pc := 20) C (7, 0) (v := .int ((g 11 0 0))) ck_7 rfl 3 (by decide) inX2 wd_133 rfl rfl dX2_note_20 ?_
      refine v_aload_n (pc := 23) C dX2_note_23 0 rfl rfl ?_
      refine v_get (pc := 24) C (7, 0) (v := .ref (A (9, 0))) ck_7 rfl 1 (by decide) inX2 wd_131 rfl rfl dX2_note_24 ?_
      refine v_alen (pc := 27) C (9, 0) (v := 517) ck_9 rfl (by decide) dX2_note_27 ?_
      refine v_icmp_ge (pc := 28) (tgt := 66) C dX2_note_28 (by decide) (fun c_3 => ?_) (fun c_3 => ?_)
      · skip
        exact absurd c_3 c_2
      · skip
        refine v_aload_n (pc := 31) C dX2_note_31 0 rfl rfl ?_
        refine v_get (pc := 32) C (7, 0) (v := .ref (A (8, 0))) ck_7 rfl 0 (by decide) inX2 wd_130 rfl rfl dX2_note_32 ?_
        refine v_aload_n (pc := 35) C dX2_note_35 0 rfl rfl ?_
        refine v_get (pc := 36) C (7, 0) (v := .int ((g 11 0 0))) ck_7 rfl 3 (by decide) inX2 wd_133 rfl rfl dX2_note_36 ?_
        refine v_iload_n (pc := 39) C dX2_note_39 1 rfl rfl ?_
        refine v_bipush (v := 6) (pc := 40) C dX2_note_40 (by decide) ?_
        refine v_imul (pc := 42) C dX2_note_42 ?_
        refine v_iload_n (pc := 43) C dX2_note_43 2 rfl rfl ?_
        refine v_iadd (pc := 44) C dX2_note_44 ?_
        refine v_iast (pc := 45) C (8, 0) (x := ((x * 6) + y)) ck_8 (by (try simp only [Int32.le_iff_toInt_le, Int32.lt_iff_toInt_lt, ← Int32.toInt_inj, vp_in_iff, Int32.reduceToInt] at c_1 c_2 c_3 ⊢) <;> omega) dX2_note_45 ?_
        refine v_h (h2 := (w (s3 g 85 ((g 11 0 0)).toNatClampNeg 0 (((x * 6) + y))) r)) (u_8_a) ?_
        refine v_aload_n (pc := 46) C dX2_note_46 0 rfl rfl ?_
        refine v_get (pc := 47) C (7, 0) (v := .ref (A (9, 0))) ck_7 rfl 1 (by decide) inX2 wd_131 rfl rfl dX2_note_47 ?_
        refine v_aload_n (pc := 50) C dX2_note_50 0 rfl rfl ?_
        refine v_get (pc := 51) C (7, 0) (v := .int ((g 11 0 0))) ck_7 rfl 3 (by decide) inX2 wd_133 rfl rfl dX2_note_51 ?_
        refine v_iload_n (pc := 54) C dX2_note_54 3 rfl rfl ?_
        refine v_zast (pc := 55) C (9, 0) (x := zz) ck_9 (by (try simp only [Int32.le_iff_toInt_le, Int32.lt_iff_toInt_lt, ← Int32.toInt_inj, vp_in_iff, Int32.reduceToInt] at c_1 c_2 c_3 ⊢) <;> omega) hz dX2_note_55 ?_
        refine v_h (h2 := (w (s3 (s3 g 85 ((g 11 0 0)).toNatClampNeg 0 (((x * 6) + y))) 86 ((g 11 0 0)).toNatClampNeg 0 (zz)) r)) (u_9_a) ?_
        refine v_aload_n (pc := 56) C dX2_note_56 0 rfl rfl ?_
        refine v_dup (pc := 57) C dX2_note_57 rfl ?_
        refine v_get (pc := 58) C (7, 0) (v := .int ((g 11 0 0))) ck_7 rfl 3 (by decide) inX2 wd_133 rfl rfl dX2_note_58 ?_
        refine v_iconst (v := 1) (pc := 61) C dX2_note_61 rfl ?_
        refine v_iadd (pc := 62) C dX2_note_62 ?_
        refine v_put (pc := 63) C (7, 0) (v := .int (((g 11 0 0) + 1))) ck_7 rfl 3 (by decide) inX2 tyX2 tyX2_ok nmX2 wd_133 rfl (.inl (Value.int (((g 11 0 0) + 1)))) rfl (ty := tyX2 3) (by decide +kernel) rfl rfl (Nat.le_of_ble_eq_true rfl) dX2_note_63 ?_
        refine v_h (h2 := (w (s3 (s3 (s3 g 85 ((g 11 0 0)).toNatClampNeg 0 (((x * 6) + y))) 86 ((g 11 0 0)).toNatClampNeg 0 (zz)) 11 0 0 (((g 11 0 0) + 1))) r)) (u_7_3) ?_
        exact v_vret (pc := 66) C (by decide) (by decide) dX2_note_66 ⟨rfl, rfl, (congrArg (fun q => w q r) (by show _ = _; rw [S_X2_note, if_neg c_1, if_neg c_2]))⟩
def S_X2_noteJoined (g : vS) (x : Int32) (y : Int32) : vS := (S_X2_note g (x) (y) (1))
theorem F_X2_noteJoined {g : vS} {x : Int32} {y : Int32} {c i j : Nat} (h11 : c ≠ 11) (h85 : c ≠ 85) (h86 : c ≠ 86) : S_X2_noteJoined g x y c i j = g c i j := by
  unfold S_X2_noteJoined
  (repeat' split) <;> first | rfl | ((simp only [s3_k h11, s3_k h85, s3_k h86, F_X2_note h11 h85 h86]) <;> first | done | rfl)
set_option maxHeartbeats 4000000 in
set_option maxRecDepth 100000 in
theorem c_X2_noteJoined {G : vG} (hG : G.1.stackTraces = false) {A : vN → Nat} {g : vS} {r : vH} (x : Int32) (y : Int32)  : vCt G yX2_noteJoined cX2_noteJoined 3 none 1 [.ref (A (7, 0)), .int (x), .int (y)] A (w g r) (fun v A2 h2 => v = none ∧ A2 = A ∧ h2 = w (S_X2_noteJoined g x y) r) (vNoX) 0 0 := by
  refine v_of hG (by decide +kernel) (Nat.le_of_ble_eq_true rfl) (lv := [(0, .ref (A (7, 0))), (1, .int (x)), (2, .int (y))]) rfl (fun X C hnx => ?_)
  have C : vC G X cX2_noteJoined 3 RX2 none "noteJoined" 1 0 0 := C
  refine v_aload_n (pc := 0) C dX2_noteJoined_0 0 rfl rfl ?_
  refine v_iload_n (pc := 1) C dX2_noteJoined_1 1 rfl rfl ?_
  refine v_iload_n (pc := 2) C dX2_noteJoined_2 2 rfl rfl ?_
  refine v_iconst (v := 1) (pc := 3) C dX2_noteJoined_3 rfl ?_
  refine v_callV (pc := 4) C (7, 0) ck_7 rfl (c_X2_note hG (x) (y) (1) (by decide)) 3 wd_580 wd_64 wd_577 wd_579 wd_6 (by decide +kernel) (by decide) (by decide) rfl ([]) rfl (Nat.le_of_ble_eq_true rfl) (by decide) dX2_noteJoined_4 (fun _ _ _ q => q.elim) (fun v9 A9 h9 hR9 => ?_)
  obtain ⟨rfl, hA9, rfl⟩ := hR9
  obtain rfl := hA9.symm
  refine v_st (k2 := 0) (n2 := 0) (st2 := []) rfl rfl rfl ?_
  exact v_vret (pc := 7) C (by decide) (by decide) dX2_noteJoined_7 ⟨rfl, rfl, (congrArg (fun q => w q r) (by show _ = _; rw [S_X2_noteJoined]))⟩
def S_X2_noteLeft (g : vS) (x : Int32) (y : Int32) : vS := (S_X2_note g (x) (y) (0))
theorem F_X2_noteLeft {g : vS} {x : Int32} {y : Int32} {c i j : Nat} (h11 : c ≠ 11) (h85 : c ≠ 85) (h86 : c ≠ 86) : S_X2_noteLeft g x y c i j = g c i j := by
  unfold S_X2_noteLeft
  (repeat' split) <;> first | rfl | ((simp only [s3_k h11, s3_k h85, s3_k h86, F_X2_note h11 h85 h86]) <;> first | done | rfl)
set_option maxHeartbeats 4000000 in
set_option maxRecDepth 100000 in
theorem c_X2_noteLeft {G : vG} (hG : G.1.stackTraces = false) {A : vN → Nat} {g : vS} {r : vH} (x : Int32) (y : Int32)  : vCt G yX2_noteLeft cX2_noteLeft 3 none 1 [.ref (A (7, 0)), .int (x), .int (y)] A (w g r) (fun v A2 h2 => v = none ∧ A2 = A ∧ h2 = w (S_X2_noteLeft g x y) r) (vNoX) 0 0 := by
  refine v_of hG (by decide +kernel) (Nat.le_of_ble_eq_true rfl) (lv := [(0, .ref (A (7, 0))), (1, .int (x)), (2, .int (y))]) rfl (fun X C hnx => ?_)
  have C : vC G X cX2_noteLeft 3 RX2 none "noteLeft" 1 0 0 := C
  refine v_aload_n (pc := 0) C dX2_noteLeft_0 0 rfl rfl ?_
  refine v_iload_n (pc := 1) C dX2_noteLeft_1 1 rfl rfl ?_
  refine v_iload_n (pc := 2) C dX2_noteLeft_2 2 rfl rfl ?_
  refine v_iconst (v := 0) (pc := 3) C dX2_noteLeft_3 rfl ?_
  refine v_callV (pc := 4) C (7, 0) ck_7 rfl (c_X2_note hG (x) (y) (0) (by decide)) 3 wd_580 wd_64 wd_577 wd_579 wd_6 (by decide +kernel) (by decide) (by decide) rfl ([]) rfl (Nat.le_of_ble_eq_true rfl) (by decide) dX2_noteLeft_4 (fun _ _ _ q => q.elim) (fun v9 A9 h9 hR9 => ?_)
  obtain ⟨rfl, hA9, rfl⟩ := hR9
  obtain rfl := hA9.symm
  refine v_st (k2 := 0) (n2 := 0) (st2 := []) rfl rfl rfl ?_
  exact v_vret (pc := 7) C (by decide) (by decide) dX2_noteLeft_7 ⟨rfl, rfl, (congrArg (fun q => w q r) (by show _ = _; rw [S_X2_noteLeft]))⟩
def X_X11_join (g : vS) (a : Int32) (u : Int32) : Nat := (if (X_X11_needGroup g (a)) = 0 then (if (X_X11_needUser g (u)) = 0 then (if (V_X3_hasMember g ((a).toNatClampNeg) (u)) = 0 then (if (X_X11_needRoomForComingAndGoing g) = 0 then 0 else (X_X11_needRoomForComingAndGoing g)) else 3) else (X_X11_needUser g (u))) else (X_X11_needGroup g (a)))
def V_X11_join (g : vS) (a : Int32) (u : Int32) : Int32 := (if (X_X11_needGroup g (a)) = 0 then (if (X_X11_needUser g (u)) = 0 then (if (V_X3_hasMember g ((a).toNatClampNeg) (u)) = 0 then (if (X_X11_needRoomForComingAndGoing g) = 0 then ((S_X3_takeIn g ((a).toNatClampNeg) (u)) 43 (a).toNatClampNeg 0) else 0) else 0) else 0) else 0)
def S_X11_join (g : vS) (a : Int32) (u : Int32) : vS := (if (X_X11_needGroup g (a)) = 0 then (if (X_X11_needUser g (u)) = 0 then (if (V_X3_hasMember g ((a).toNatClampNeg) (u)) = 0 then (if (X_X11_needRoomForComingAndGoing g) = 0 then (S_X5_append (S_X2_noteJoined (S_X3_takeIn g ((a).toNatClampNeg) (u)) (a) (u)) (pMix ((100 + a)) (u))) else g) else g) else g) else g)
theorem F_X11_join {g : vS} {a : Int32} {u : Int32} {c i j : Nat} (h4 : c ≠ 4) (h11 : c ≠ 11) (h43 : c ≠ 43) (h44 : c ≠ 44) (h80 : c ≠ 80) (h85 : c ≠ 85) (h86 : c ≠ 86) : S_X11_join g a u c i j = g c i j := by
  unfold S_X11_join
  (repeat' split) <;> first | rfl | ((simp only [s3_k h4, s3_k h11, s3_k h43, s3_k h44, s3_k h80, s3_k h85, s3_k h86, F_X2_noteJoined h11 h85 h86, F_X3_takeIn h43 h44, F_X5_append h4 h80]) <;> first | done | rfl)
set_option maxHeartbeats 4000000 in
set_option maxRecDepth 100000 in
theorem c_X11_join {G : vG} (hG : G.1.stackTraces = false) {A : vN → Nat} {g : vS} {r : vH} (a : Int32) (u : Int32)  : vCt G yX11_join cX11_join 4 (some .int) 2 [.ref (A (0, 0)), .int (a), .int (u)] A (w g r) (fun v A2 h2 => X_X11_join g a u = 0 ∧ v = some (.int (V_X11_join g a u)) ∧ A2 = A ∧ h2 = w (S_X11_join g a u) r) (fun cls A2 h2 => X_X11_join g a u ≠ 0 ∧ cls = vEx (X_X11_join g a u) ∧ A2 = A ∧ h2 = w (S_X11_join g a u) r) 3 18 := by
  refine v_of hG (by decide +kernel) (Nat.le_of_ble_eq_true rfl) (lv := [(0, .ref (A (0, 0))), (1, .int (a)), (2, .int (u))]) rfl (fun X C hnx => ?_)
  have C : vC G X cX11_join 4 RX11 (some .int) "join" 2 3 18 := C
  refine v_aload_n (pc := 0) C dX11_join_0 0 rfl rfl ?_
  refine v_iload_n (pc := 1) C dX11_join_1 1 rfl rfl ?_
  refine v_callV (pc := 2) C (0, 0) ck_0 rfl (c_X11_needGroup hG (a) ) 1 wd_591 wd_62 wd_588 wd_590 wd_7 (by decide +kernel) (by decide) (by decide) rfl ([]) rfl (Nat.le_of_ble_eq_true rfl) (by decide) dX11_join_2 (fun cls9 A9 h9 hE9 => by obtain ⟨q9, rfl, rfl, rfl⟩ := hE9; exact v_out C hnx ⟨(by rw [show (X_X11_join g a u) = (X_X11_needGroup g (a)) from (by rw [X_X11_join, if_neg q9])]; exact q9), (by rw [show (X_X11_join g a u) = (X_X11_needGroup g (a)) from (by rw [X_X11_join, if_neg q9])]), rfl, (congrArg (fun q => w q r) (by show _ = _; rw [S_X11_join, if_neg q9]))⟩ (by decide) (by decide)) (fun v9 A9 h9 hR9 => ?_)
  obtain ⟨x_1, rfl, hA9, rfl⟩ := hR9
  obtain rfl := hA9.symm
  refine v_st (k2 := 1) (n2 := 6) (st2 := [.ref (A (27, (a).toNatClampNeg))]) rfl rfl rfl ?_
  refine v_astore_n (lv2 := [(3, .ref (A (27, (a).toNatClampNeg))), (0, .ref (A (0, 0))), (1, .int (a)), (2, .int (u))]) (pc := 5) C dX11_join_5 rfl (by decide) rfl ?_
  refine v_aload_n (pc := 6) C dX11_join_6 1 rfl rfl ?_
  refine v_iload_n (pc := 7) C dX11_join_7 3 rfl rfl ?_
  refine v_callV (pc := 8) C (0, 0) ck_0 rfl (c_X11_needUser hG (u) ) 1 wd_513 wd_62 wd_510 wd_512 wd_5 (by decide +kernel) (by decide) (by decide) rfl ([]) rfl (Nat.le_of_ble_eq_true rfl) (by decide) dX11_join_8 (fun cls9 A9 h9 hE9 => by obtain ⟨q9, rfl, rfl, rfl⟩ := hE9; exact v_out C hnx ⟨(by rw [show (X_X11_join g a u) = (X_X11_needUser g (u)) from (by rw [X_X11_join, if_pos x_1, if_neg q9])]; exact q9), (by rw [show (X_X11_join g a u) = (X_X11_needUser g (u)) from (by rw [X_X11_join, if_pos x_1, if_neg q9])]), rfl, (congrArg (fun q => w q r) (by show _ = _; rw [S_X11_join, if_pos x_1, if_neg q9]))⟩ (by decide) (by decide)) (fun v9 A9 h9 hR9 => ?_)
  obtain ⟨x_2, rfl, hA9, rfl⟩ := hR9
  obtain rfl := hA9.symm
  refine v_st (k2 := 2) (n2 := 12) (st2 := [.ref (A (22, (u).toNatClampNeg))]) rfl rfl rfl ?_
  refine v_pop (pc := 11) C dX11_join_11 rfl ?_
  refine v_aload_n (pc := 12) C dX11_join_12 0 rfl rfl ?_
  refine v_iload_n (pc := 13) C dX11_join_13 3 rfl rfl ?_
  refine v_callV (pc := 14) C (27, (a).toNatClampNeg) (ck_27 (g := g) (ok_needGroup x_1)) rfl (c_X3_hasMember hG ((a).toNatClampNeg) (u) (ok_needGroup x_1)) 1 wd_349 wd_77 wd_593 wd_347 wd_348 (by decide +kernel) (by decide) (by decide) rfl ([]) rfl (Nat.le_of_ble_eq_true rfl) (by decide) dX11_join_14 (fun _ _ _ q => q.elim) (fun v9 A9 h9 hR9 => ?_)
  obtain ⟨rfl, hA9, rfl⟩ := hR9
  obtain rfl := hA9.symm
  refine v_st (k2 := 2) (n2 := 12) (st2 := [.int ((V_X3_hasMember g ((a).toNatClampNeg) (u)))]) rfl rfl rfl ?_
  refine v_if_eq (pc := 17) (tgt := 30) C dX11_join_17 (by decide) (fun c_3 => ?_) (fun c_3 => ?_)
  · skip
    refine v_aload_n (pc := 30) C dX11_join_30 1 rfl rfl ?_
    refine v_callV (pc := 31) C (0, 0) ck_0 rfl (c_X11_needRoomForComingAndGoing hG  ) 0 wd_598 wd_62 wd_595 wd_597 wd_8 (by decide +kernel) (by decide) (by decide) rfl ([]) rfl (Nat.le_of_ble_eq_true rfl) (by decide) dX11_join_31 (fun cls9 A9 h9 hE9 => by obtain ⟨q9, rfl, rfl, rfl⟩ := hE9; exact v_out C hnx ⟨(by rw [show (X_X11_join g a u) = (X_X11_needRoomForComingAndGoing g) from (by rw [X_X11_join, if_pos x_1, if_pos x_2, if_pos c_3, if_neg q9])]; exact q9), (by rw [show (X_X11_join g a u) = (X_X11_needRoomForComingAndGoing g) from (by rw [X_X11_join, if_pos x_1, if_pos x_2, if_pos c_3, if_neg q9])]), rfl, (congrArg (fun q => w q r) (by show _ = _; rw [S_X11_join, if_pos x_1, if_pos x_2, if_pos c_3, if_neg q9]))⟩ (by decide) (by decide)) (fun v9 A9 h9 hR9 => ?_)
    obtain ⟨x_4, rfl, hA9, rfl⟩ := hR9
    obtain rfl := hA9.symm
    refine v_st (k2 := 3) (n2 := 18) (st2 := []) rfl rfl rfl ?_
    refine v_aload_n (pc := 34) C dX11_join_34 0 rfl rfl ?_
    refine v_iload_n (pc := 35) C dX11_join_35 3 rfl rfl ?_
    refine v_callV (pc := 36) C (27, (a).toNatClampNeg) (ck_27 (g := g) (ok_needGroup x_1)) rfl (c_X3_takeIn hG ((a).toNatClampNeg) (u) (ok_needGroup x_1)) 1 wd_572 wd_77 wd_569 wd_570 wd_571 (by decide +kernel) (by decide) (by decide) rfl ([]) rfl (Nat.le_of_ble_eq_true rfl) (by decide) dX11_join_36 (fun _ _ _ q => q.elim) (fun v9 A9 h9 hR9 => ?_)
    obtain ⟨rfl, hA9, rfl⟩ := hR9
    obtain rfl := hA9.symm
    refine v_st (k2 := 3) (n2 := 18) (st2 := []) rfl rfl rfl ?_
    refine v_aload_n (pc := 39) C dX11_join_39 1 rfl rfl ?_
    refine v_get (pc := 40) C (0, 0) (v := .ref (A (7, 0))) ck_0 rfl 4 (by decide) inX11 wd_224 rfl rfl dX11_join_40 ?_
    refine v_iload_n (pc := 43) C dX11_join_43 2 rfl rfl ?_
    refine v_iload_n (pc := 44) C dX11_join_44 3 rfl rfl ?_
    refine v_callV (pc := 45) C (7, 0) ck_7 rfl (c_X2_noteJoined hG (a) (u) ) 2 wd_576 wd_64 wd_573 wd_574 wd_575 (by decide +kernel) (by decide) (by decide) rfl ([]) rfl (Nat.le_of_ble_eq_true rfl) (by decide) dX11_join_45 (fun _ _ _ q => q.elim) (fun v9 A9 h9 hR9 => ?_)
    obtain ⟨rfl, hA9, rfl⟩ := hR9
    obtain rfl := hA9.symm
    refine v_st (k2 := 3) (n2 := 18) (st2 := []) rfl rfl rfl ?_
    refine v_aload_n (pc := 48) C dX11_join_48 1 rfl rfl ?_
    refine v_get (pc := 49) C (0, 0) (v := .ref (A (4, 0))) ck_0 rfl 3 (by decide) inX11 wd_223 rfl rfl dX11_join_49 ?_
    refine v_bipush (v := 100) (pc := 52) C dX11_join_52 (by decide) ?_
    refine v_iload_n (pc := 54) C dX11_join_54 2 rfl rfl ?_
    refine v_iadd (pc := 55) C dX11_join_55 ?_
    refine v_iload_n (pc := 56) C dX11_join_56 3 rfl rfl ?_
    refine v_callS (pc := 57) C (c_X0_mix hG ((100 + a)) (u)) 2 wd_313 wd_78 wd_608 wd_312 (by decide +kernel) (by decide) (by decide) rfl ([.ref (A (4, 0))]) rfl (Nat.le_of_ble_eq_true rfl) (by decide) dX11_join_57 (fun _ _ _ q => q.elim) (fun v9 A9 h9 hR9 => ?_)
    obtain ⟨rfl, hA9, rfl⟩ := hR9
    obtain rfl := hA9.symm
    refine v_st (k2 := 3) (n2 := 18) (st2 := [.int (pMix ((100 + a)) (u)), .ref (A (4, 0))]) rfl rfl rfl ?_
    refine v_callV (pc := 60) C (4, 0) ck_4 rfl (c_X5_append hG (pMix ((100 + a)) (u)) ) 1 wd_612 wd_63 wd_609 wd_610 wd_611 (by decide +kernel) (by decide) (by decide) rfl ([]) rfl (Nat.le_of_ble_eq_true rfl) (by decide) dX11_join_60 (fun _ _ _ q => q.elim) (fun v9 A9 h9 hR9 => ?_)
    obtain ⟨rfl, hA9, rfl⟩ := hR9
    obtain rfl := hA9.symm
    refine v_st (k2 := 3) (n2 := 18) (st2 := []) rfl rfl rfl ?_
    refine v_aload_n (pc := 63) C dX11_join_63 0 rfl rfl ?_
    refine v_get (pc := 64) C (27, (a).toNatClampNeg) (v := .int (((S_X3_takeIn g ((a).toNatClampNeg) (u)) 43 (a).toNatClampNeg 0))) (ck_27 (g := (S_X5_append (S_X2_noteJoined (S_X3_takeIn g ((a).toNatClampNeg) (u)) (a) (u)) (pMix ((100 + a)) (u)))) (vtn ((F_X5_append (by decide) (by decide)).trans ((F_X2_noteJoined (by decide) (by decide) (by decide)).trans (F_X3_takeIn (by decide) (by decide)))) (ok_needGroup x_1))) rfl 5 (by decide) inX3 wd_549 rfl (congrArg Value.int ((F_X5_append (by decide) (by decide)).trans (F_X2_noteJoined (by decide) (by decide) (by decide)))) dX11_join_64 ?_
    exact v_iret (pc := 67) C (by decide) (by decide) dX11_join_67 ⟨(by rw [X_X11_join, if_pos x_1, if_pos x_2, if_pos c_3, if_pos x_4]), (congrArg (fun q => some (Value.int q)) (by show _ = _; rw [V_X11_join, if_pos x_1, if_pos x_2, if_pos c_3, if_pos x_4])), rfl, (congrArg (fun q => w q r) (by show _ = _; rw [S_X11_join, if_pos x_1, if_pos x_2, if_pos c_3, if_pos x_4]))⟩
  · skip
    exact v_throw (pc := 20) C hnx (cls := "java/lang/IllegalStateException") (text := "the user is a member") (by decide +kernel) wd_431 wd_73 (by decide +kernel) at_IllegalStateException (by decide) (by decide) (by decide) dX11_join_20 dX11_join_23 dX11_join_24 dX11_join_26 dX11_join_29 ⟨by rw [show (X_X11_join g a u) = 3 from (by rw [X_X11_join, if_pos x_1, if_pos x_2, if_neg c_3])]; decide, by rw [show (X_X11_join g a u) = 3 from (by rw [X_X11_join, if_pos x_1, if_pos x_2, if_neg c_3])]; rfl, rfl, (congrArg (fun q => w q r) (by show _ = _; rw [S_X11_join, if_pos x_1, if_pos x_2, if_neg c_3]))⟩
def X_X11_leave (g : vS) (a : Int32) (u : Int32) (zz : Int32) : Nat := (if (X_X11_needGroup g (a)) = 0 then (if (V_X3_hasMember g ((a).toNatClampNeg) (u)) = 0 then 1 else (if u = (g 40 (a).toNatClampNeg 0) then 2 else (if (X_X11_needRoomForComingAndGoing g) = 0 then 0 else (X_X11_needRoomForComingAndGoing g)))) else (X_X11_needGroup g (a)))
def V_X11_leave (g : vS) (a : Int32) (u : Int32) (zz : Int32) : Int32 := (if (X_X11_needGroup g (a)) = 0 then (if (V_X3_hasMember g ((a).toNatClampNeg) (u)) = 0 then 0 else (if u = (g 40 (a).toNatClampNeg 0) then 0 else (if (X_X11_needRoomForComingAndGoing g) = 0 then (if zz = 0 then 0 else (V_X11_turnFilesOf (S_X5_append (S_X2_noteLeft (S_X3_letGo g ((a).toNatClampNeg) (u)) (a) (u)) (pMix ((200 + a)) (u))) ((a).toNatClampNeg))) else 0))) else 0)
def S_X11_leave (g : vS) (a : Int32) (u : Int32) (zz : Int32) : vS := (if (X_X11_needGroup g (a)) = 0 then (if (V_X3_hasMember g ((a).toNatClampNeg) (u)) = 0 then g else (if u = (g 40 (a).toNatClampNeg 0) then g else (if (X_X11_needRoomForComingAndGoing g) = 0 then (if zz = 0 then (S_X5_append (S_X2_noteLeft (S_X3_letGo g ((a).toNatClampNeg) (u)) (a) (u)) (pMix ((200 + a)) (u))) else (S_X11_turnFilesOf (S_X5_append (S_X2_noteLeft (S_X3_letGo g ((a).toNatClampNeg) (u)) (a) (u)) (pMix ((200 + a)) (u))) ((a).toNatClampNeg))) else g))) else g)
theorem F_X11_leave {g : vS} {a : Int32} {u : Int32} {zz : Int32} {c i j : Nat} (h4 : c ≠ 4) (h11 : c ≠ 11) (h42 : c ≠ 42) (h43 : c ≠ 43) (h44 : c ≠ 44) (h47 : c ≠ 47) (h51 : c ≠ 51) (h52 : c ≠ 52) (h57 : c ≠ 57) (h58 : c ≠ 58) (h60 : c ≠ 60) (h61 : c ≠ 61) (h62 : c ≠ 62) (h64 : c ≠ 64) (h65 : c ≠ 65) (h80 : c ≠ 80) (h85 : c ≠ 85) (h86 : c ≠ 86) : S_X11_leave g a u zz c i j = g c i j := by
  unfold S_X11_leave
  (repeat' split) <;> first | rfl | ((simp only [s3_k h4, s3_k h11, s3_k h42, s3_k h43, s3_k h44, s3_k h47, s3_k h51, s3_k h52, s3_k h57, s3_k h58, s3_k h60, s3_k h61, s3_k h62, s3_k h64, s3_k h65, s3_k h80, s3_k h85, s3_k h86, F_X11_turnFilesOf h51 h52 h57 h58 h60 h61 h62 h64 h65, F_X2_noteLeft h11 h85 h86, F_X3_letGo h42 h43 h44 h47, F_X5_append h4 h80]) <;> first | done | rfl)
set_option maxHeartbeats 4000000 in
set_option maxRecDepth 100000 in
theorem c_X11_leave {G : vG} (hG : G.1.stackTraces = false) {A : vN → Nat} {g : vS} {r : vH} (a : Int32) (u : Int32) (zz : Int32) (hI : vI1 g) : vCt G yX11_leave cX11_leave 5 (some .int) 5 [.ref (A (0, 0)), .int (a), .int (u), .int (zz)] A (w g r) (fun v A2 h2 => X_X11_leave g a u zz = 0 ∧ v = some (.int (V_X11_leave g a u zz)) ∧ A2 = A ∧ h2 = w (S_X11_leave g a u zz) r) (fun cls A2 h2 => X_X11_leave g a u zz ≠ 0 ∧ cls = vEx (X_X11_leave g a u zz) ∧ A2 = A ∧ h2 = w (S_X11_leave g a u zz) r) 2 12 := by
  refine v_of hG (by decide +kernel) (Nat.le_of_ble_eq_true rfl) (lv := [(0, .ref (A (0, 0))), (1, .int (a)), (2, .int (u)), (3, .int (zz))]) rfl (fun X C hnx => ?_)
  have C : vC G X cX11_leave 5 RX11 (some .int) "leave" 5 2 12 := C
  refine v_aload_n (pc := 0) C dX11_leave_0 0 rfl rfl ?_
  refine v_iload_n (pc := 1) C dX11_leave_1 1 rfl rfl ?_
  refine v_callV (pc := 2) C (0, 0) ck_0 rfl (c_X11_needGroup hG (a) ) 1 wd_591 wd_62 wd_588 wd_590 wd_7 (by decide +kernel) (by decide) (by decide) rfl ([]) rfl (Nat.le_of_ble_eq_true rfl) (by decide) dX11_leave_2 (fun cls9 A9 h9 hE9 => by obtain ⟨q9, rfl, rfl, rfl⟩ := hE9; exact v_out C hnx ⟨(by rw [show (X_X11_leave g a u zz) = (X_X11_needGroup g (a)) from (by rw [X_X11_leave, if_neg q9])]; exact q9), (by rw [show (X_X11_leave g a u zz) = (X_X11_needGroup g (a)) from (by rw [X_X11_leave, if_neg q9])]), rfl, (congrArg (fun q => w q r) (by show _ = _; rw [S_X11_leave, if_neg q9]))⟩ (by decide) (by decide)) (fun v9 A9 h9 hR9 => ?_)
  obtain ⟨x_1, rfl, hA9, rfl⟩ := hR9
  obtain rfl := hA9.symm
  refine v_st (k2 := 1) (n2 := 6) (st2 := [.ref (A (27, (a).toNatClampNeg))]) rfl rfl rfl ?_
  refine v_astore (lv2 := [(4, .ref (A (27, (a).toNatClampNeg))), (0, .ref (A (0, 0))), (1, .int (a)), (2, .int (u)), (3, .int (zz))]) (pc := 5) C dX11_leave_5 (by decide) rfl ?_
  refine v_aload (pc := 7) C dX11_leave_7 0 rfl ?_
  refine v_iload_n (pc := 9) C dX11_leave_9 3 rfl rfl ?_
  refine v_callV (pc := 10) C (27, (a).toNatClampNeg) (ck_27 (g := g) (ok_needGroup x_1)) rfl (c_X3_hasMember hG ((a).toNatClampNeg) (u) (ok_needGroup x_1)) 1 wd_349 wd_77 wd_593 wd_347 wd_348 (by decide +kernel) (by decide) (by decide) rfl ([]) rfl (Nat.le_of_ble_eq_true rfl) (by decide) dX11_leave_10 (fun _ _ _ q => q.elim) (fun v9 A9 h9 hR9 => ?_)
  obtain ⟨rfl, hA9, rfl⟩ := hR9
  obtain rfl := hA9.symm
  refine v_st (k2 := 1) (n2 := 6) (st2 := [.int ((V_X3_hasMember g ((a).toNatClampNeg) (u)))]) rfl rfl rfl ?_
  refine v_if_ne (pc := 13) (tgt := 26) C dX11_leave_13 (by decide) (fun c_2 => ?_) (fun c_2 => ?_)
  · skip
    refine v_iload_n (pc := 26) C dX11_leave_26 3 rfl rfl ?_
    refine v_aload (pc := 27) C dX11_leave_27 0 rfl ?_
    refine v_get (pc := 29) C (27, (a).toNatClampNeg) (v := .int ((g 40 (a).toNatClampNeg 0))) (ck_27 (g := g) (ok_needGroup x_1)) rfl 1 (by decide) inX3 wd_541 rfl rfl dX11_leave_29 ?_
    refine v_icmp_ne (pc := 32) (tgt := 45) C dX11_leave_32 (by decide) (fun c_3 => ?_) (fun c_3 => ?_)
    · skip
      refine v_aload_n (pc := 45) C dX11_leave_45 1 rfl rfl ?_
      refine v_callV (pc := 46) C (0, 0) ck_0 rfl (c_X11_needRoomForComingAndGoing hG  ) 0 wd_598 wd_62 wd_595 wd_597 wd_8 (by decide +kernel) (by decide) (by decide) rfl ([]) rfl (Nat.le_of_ble_eq_true rfl) (by decide) dX11_leave_46 (fun cls9 A9 h9 hE9 => by obtain ⟨q9, rfl, rfl, rfl⟩ := hE9; exact v_out C hnx ⟨(by rw [show (X_X11_leave g a u zz) = (X_X11_needRoomForComingAndGoing g) from (by rw [X_X11_leave, if_pos x_1, if_neg c_2, if_neg c_3, if_neg q9])]; exact q9), (by rw [show (X_X11_leave g a u zz) = (X_X11_needRoomForComingAndGoing g) from (by rw [X_X11_leave, if_pos x_1, if_neg c_2, if_neg c_3, if_neg q9])]), rfl, (congrArg (fun q => w q r) (by show _ = _; rw [S_X11_leave, if_pos x_1, if_neg c_2, if_neg c_3, if_neg q9]))⟩ (by decide) (by decide)) (fun v9 A9 h9 hR9 => ?_)
      obtain ⟨x_4, rfl, hA9, rfl⟩ := hR9
      obtain rfl := hA9.symm
      refine v_st (k2 := 2) (n2 := 12) (st2 := []) rfl rfl rfl ?_
      refine v_aload (pc := 49) C dX11_leave_49 0 rfl ?_
      refine v_iload_n (pc := 51) C dX11_leave_51 3 rfl rfl ?_
      refine v_callV (pc := 52) C (27, (a).toNatClampNeg) (ck_27 (g := g) (ok_needGroup x_1)) rfl (c_X3_letGo hG ((a).toNatClampNeg) (u) (ok_needGroup x_1)) 1 wd_625 wd_77 wd_622 wd_623 wd_624 (by decide +kernel) (by decide) (by decide) rfl ([]) rfl (Nat.le_of_ble_eq_true rfl) (by decide) dX11_leave_52 (fun _ _ _ q => q.elim) (fun v9 A9 h9 hR9 => ?_)
      obtain ⟨rfl, hA9, rfl⟩ := hR9
      obtain rfl := hA9.symm
      refine v_st (k2 := 2) (n2 := 12) (st2 := []) rfl rfl rfl ?_
      refine v_aload_n (pc := 55) C dX11_leave_55 1 rfl rfl ?_
      refine v_get (pc := 56) C (0, 0) (v := .ref (A (7, 0))) ck_0 rfl 4 (by decide) inX11 wd_224 rfl rfl dX11_leave_56 ?_
      refine v_iload_n (pc := 59) C dX11_leave_59 2 rfl rfl ?_
      refine v_iload_n (pc := 60) C dX11_leave_60 3 rfl rfl ?_
      refine v_callV (pc := 61) C (7, 0) ck_7 rfl (c_X2_noteLeft hG (a) (u) ) 2 wd_629 wd_64 wd_626 wd_627 wd_628 (by decide +kernel) (by decide) (by decide) rfl ([]) rfl (Nat.le_of_ble_eq_true rfl) (by decide) dX11_leave_61 (fun _ _ _ q => q.elim) (fun v9 A9 h9 hR9 => ?_)
      obtain ⟨rfl, hA9, rfl⟩ := hR9
      obtain rfl := hA9.symm
      refine v_st (k2 := 2) (n2 := 12) (st2 := []) rfl rfl rfl ?_
      refine v_aload_n (pc := 64) C dX11_leave_64 1 rfl rfl ?_
      refine v_get (pc := 65) C (0, 0) (v := .ref (A (4, 0))) ck_0 rfl 3 (by decide) inX11 wd_223 rfl rfl dX11_leave_65 ?_
      refine v_sipush (v := 200) (pc := 68) C dX11_leave_68 (by decide) ?_
      refine v_iload_n (pc := 71) C dX11_leave_71 2 rfl rfl ?_
      refine v_iadd (pc := 72) C dX11_leave_72 ?_
      refine v_iload_n (pc := 73) C dX11_leave_73 3 rfl rfl ?_
      refine v_callS (pc := 74) C (c_X0_mix hG ((200 + a)) (u)) 2 wd_313 wd_78 wd_608 wd_312 (by decide +kernel) (by decide) (by decide) rfl ([.ref (A (4, 0))]) rfl (Nat.le_of_ble_eq_true rfl) (by decide) dX11_leave_74 (fun _ _ _ q => q.elim) (fun v9 A9 h9 hR9 => ?_)
      obtain ⟨rfl, hA9, rfl⟩ := hR9
      obtain rfl := hA9.symm
      refine v_st (k2 := 2) (n2 := 12) (st2 := [.int (pMix ((200 + a)) (u)), .ref (A (4, 0))]) rfl rfl rfl ?_
      refine v_callV (pc := 77) C (4, 0) ck_4 rfl (c_X5_append hG (pMix ((200 + a)) (u)) ) 1 wd_612 wd_63 wd_609 wd_610 wd_611 (by decide +kernel) (by decide) (by decide) rfl ([]) rfl (Nat.le_of_ble_eq_true rfl) (by decide) dX11_leave_77 (fun _ _ _ q => q.elim) (fun v9 A9 h9 hR9 => ?_)
      obtain ⟨rfl, hA9, rfl⟩ := hR9
      obtain rfl := hA9.symm
      refine v_st (k2 := 2) (n2 := 12) (st2 := []) rfl rfl rfl ?_
      refine v_iload_n (pc := 80) C dX11_leave_80 4 rfl rfl ?_
      refine v_if_eq (pc := 81) (tgt := 93) C dX11_leave_81 (by decide) (fun c_5 => ?_) (fun c_5 => ?_)
      · skip
        refine v_iconst (v := 0) (pc := 93) C dX11_leave_93 rfl ?_
        exact v_iret (pc := 94) C (by decide) (by decide) dX11_leave_94 ⟨(by rw [X_X11_leave, if_pos x_1, if_neg c_2, if_neg c_3, if_pos x_4]), (congrArg (fun q => some (Value.int q)) (by show _ = _; rw [V_X11_leave, if_pos x_1, if_neg c_2, if_neg c_3, if_pos x_4, if_pos c_5])), rfl, (congrArg (fun q => w q r) (by show _ = _; rw [S_X11_leave, if_pos x_1, if_neg c_2, if_neg c_3, if_pos x_4, if_pos c_5]))⟩
      · skip
        refine v_aload_n (pc := 84) C dX11_leave_84 1 rfl rfl ?_
        refine v_aload (pc := 85) C dX11_leave_85 0 rfl ?_
        refine v_callV (pc := 87) C (0, 0) ck_0 rfl (c_X11_turnFilesOf hG ((a).toNatClampNeg) (vtn ((F_X5_append (by decide) (by decide)).trans ((F_X2_noteLeft (by decide) (by decide) (by decide)).trans (F_X3_letGo (by decide) (by decide) (by decide) (by decide)))) (ok_needGroup x_1)) (vI1_k (fun _ _ => (F_X5_append (by decide) (by decide)).trans ((F_X2_noteLeft (by decide) (by decide) (by decide)).trans (F_X3_letGo (by decide) (by decide) (by decide) (by decide)))) (fun _ _ => (F_X5_append (by decide) (by decide)).trans ((F_X2_noteLeft (by decide) (by decide) (by decide)).trans (F_X3_letGo (by decide) (by decide) (by decide) (by decide)))) (fun _ _ => (F_X5_append (by decide) (by decide)).trans ((F_X2_noteLeft (by decide) (by decide) (by decide)).trans (F_X3_letGo (by decide) (by decide) (by decide) (by decide)))) hI)) 1 wd_633 wd_62 wd_630 wd_632 wd_9 (by decide +kernel) (by decide) (by decide) rfl ([]) rfl (Nat.le_of_ble_eq_true rfl) (by decide) dX11_leave_87 (fun _ _ _ q => q.elim) (fun v9 A9 h9 hR9 => ?_)
        obtain ⟨rfl, hA9, rfl⟩ := hR9
        obtain rfl := hA9.symm
        refine v_st (k2 := 2) (n2 := 12) (st2 := [.int ((V_X11_turnFilesOf (S_X5_append (S_X2_noteLeft (S_X3_letGo g ((a).toNatClampNeg) (u)) (a) (u)) (pMix ((200 + a)) (u))) ((a).toNatClampNeg)))]) rfl rfl rfl ?_
        refine v_goto (tgt := 94) (pc := 90) C dX11_leave_90 (by decide) ?_
        exact v_iret (pc := 94) C (by decide) (by decide) dX11_leave_94 ⟨(by rw [X_X11_leave, if_pos x_1, if_neg c_2, if_neg c_3, if_pos x_4]), (congrArg (fun q => some (Value.int q)) (by show _ = _; rw [V_X11_leave, if_pos x_1, if_neg c_2, if_neg c_3, if_pos x_4, if_neg c_5])), rfl, (congrArg (fun q => w q r) (by show _ = _; rw [S_X11_leave, if_pos x_1, if_neg c_2, if_neg c_3, if_pos x_4, if_neg c_5]))⟩
    · skip
      exact v_throw (pc := 35) C hnx (cls := "java/lang/IllegalArgumentException") (text := "the user is the owner") (by decide +kernel) wd_359 wd_72 (by decide +kernel) at_IllegalArgumentException (by decide) (by decide) (by decide) dX11_leave_35 dX11_leave_38 dX11_leave_39 dX11_leave_41 dX11_leave_44 ⟨by rw [show (X_X11_leave g a u zz) = 2 from (by rw [X_X11_leave, if_pos x_1, if_neg c_2, if_pos c_3])]; decide, by rw [show (X_X11_leave g a u zz) = 2 from (by rw [X_X11_leave, if_pos x_1, if_neg c_2, if_pos c_3])]; rfl, rfl, (congrArg (fun q => w q r) (by show _ = _; rw [S_X11_leave, if_pos x_1, if_neg c_2, if_pos c_3]))⟩
  · skip
    exact vn_throw (pc := 16) C hnx (text := "the user is no member") wd_514 wd_76 (by decide +kernel) at_NoSuchElementException (by decide) (by decide) (by decide) dX11_leave_16 dX11_leave_19 dX11_leave_20 dX11_leave_22 dX11_leave_25 ⟨by rw [show (X_X11_leave g a u zz) = 1 from (by rw [X_X11_leave, if_pos x_1, if_pos c_2])]; decide, by rw [show (X_X11_leave g a u zz) = 1 from (by rw [X_X11_leave, if_pos x_1, if_pos c_2])]; rfl, rfl, (congrArg (fun q => w q r) (by show _ = _; rw [S_X11_leave, if_pos x_1, if_pos c_2]))⟩
def X_X11_draft (g : vS) (u : Int32) (a : Int32) (x : Int32) (y : Int32) : Nat := (if (X_X11_needUser g (u)) = 0 then (if (X_X11_needFile g (a)) = 0 then (if (X_X11_needPartNumber g (x)) = 0 then (if (g 21 (u).toNatClampNeg 0) = 0 then 3 else (if (V_X1_hasRoomFor g ((u).toNatClampNeg) (((8 * a) + x))) = 0 then 3 else 0)) else (X_X11_needPartNumber g (x))) else (X_X11_needFile g (a))) else (X_X11_needUser g (u)))
def V_X11_draft (g : vS) (u : Int32) (a : Int32) (x : Int32) (y : Int32) : Int32 := (if (X_X11_needUser g (u)) = 0 then (if (X_X11_needFile g (a)) = 0 then (if (X_X11_needPartNumber g (x)) = 0 then (if (g 21 (u).toNatClampNeg 0) = 0 then 0 else (if (V_X1_hasRoomFor g ((u).toNatClampNeg) (((8 * a) + x))) = 0 then 0 else (V_X1_count (S_X1_keep g ((u).toNatClampNeg) (((8 * a) + x)) (y) ((V_X4_writesOf g ((a).toNatClampNeg) (x)))) ((u).toNatClampNeg)))) else 0) else 0) else 0)
def S_X11_draft (g : vS) (u : Int32) (a : Int32) (x : Int32) (y : Int32) : vS := (if (X_X11_needUser g (u)) = 0 then (if (X_X11_needFile g (a)) = 0 then (if (X_X11_needPartNumber g (x)) = 0 then (if (g 21 (u).toNatClampNeg 0) = 0 then g else (if (V_X1_hasRoomFor g ((u).toNatClampNeg) (((8 * a) + x))) = 0 then g else (S_X1_keep g ((u).toNatClampNeg) (((8 * a) + x)) (y) ((V_X4_writesOf g ((a).toNatClampNeg) (x)))))) else g) else g) else g)
theorem F_X11_draft {g : vS} {u : Int32} {a : Int32} {x : Int32} {y : Int32} {c i j : Nat} (h27 : c ≠ 27) (h30 : c ≠ 30) (h31 : c ≠ 31) (h32 : c ≠ 32) : S_X11_draft g u a x y c i j = g c i j := by
  unfold S_X11_draft
  (repeat' split) <;> first | rfl | ((simp only [s3_k h27, s3_k h30, s3_k h31, s3_k h32, F_X1_keep h27 h30 h31 h32]) <;> first | done | rfl)
set_option maxHeartbeats 4000000 in
set_option maxRecDepth 100000 in
theorem c_X11_draft {G : vG} (hG : G.1.stackTraces = false) {A : vN → Nat} {g : vS} {r : vH} (u : Int32) (a : Int32) (x : Int32) (y : Int32) (hc : g 27 (u).toNatClampNeg 0 ≤ 10) : vCt G yX11_draft cX11_draft 8 (some .int) 3 [.ref (A (0, 0)), .int (u), .int (a), .int (x), .int (y)] A (w g r) (fun v A2 h2 => X_X11_draft g u a x y = 0 ∧ v = some (.int (V_X11_draft g u a x y)) ∧ A2 = A ∧ h2 = w (S_X11_draft g u a x y) r) (fun cls A2 h2 => X_X11_draft g u a x y ≠ 0 ∧ cls = vEx (X_X11_draft g u a x y) ∧ A2 = A ∧ h2 = w (S_X11_draft g u a x y) r) 4 24 := by
  refine v_of hG (by decide +kernel) (Nat.le_of_ble_eq_true rfl) (lv := [(0, .ref (A (0, 0))), (1, .int (u)), (2, .int (a)), (3, .int (x)), (4, .int (y))]) rfl (fun X C hnx => ?_)
  have C : vC G X cX11_draft 8 RX11 (some .int) "draft" 3 4 24 := C
  refine v_aload_n (pc := 0) C dX11_draft_0 0 rfl rfl ?_
  refine v_iload_n (pc := 1) C dX11_draft_1 1 rfl rfl ?_
  refine v_callV (pc := 2) C (0, 0) ck_0 rfl (c_X11_needUser hG (u) ) 1 wd_513 wd_62 wd_510 wd_512 wd_5 (by decide +kernel) (by decide) (by decide) rfl ([]) rfl (Nat.le_of_ble_eq_true rfl) (by decide) dX11_draft_2 (fun cls9 A9 h9 hE9 => by obtain ⟨q9, rfl, rfl, rfl⟩ := hE9; exact v_out C hnx ⟨(by rw [show (X_X11_draft g u a x y) = (X_X11_needUser g (u)) from (by rw [X_X11_draft, if_neg q9])]; exact q9), (by rw [show (X_X11_draft g u a x y) = (X_X11_needUser g (u)) from (by rw [X_X11_draft, if_neg q9])]), rfl, (congrArg (fun q => w q r) (by show _ = _; rw [S_X11_draft, if_neg q9]))⟩ (by decide) (by decide)) (fun v9 A9 h9 hR9 => ?_)
  obtain ⟨x_1, rfl, hA9, rfl⟩ := hR9
  obtain rfl := hA9.symm
  refine v_st (k2 := 1) (n2 := 6) (st2 := [.ref (A (22, (u).toNatClampNeg))]) rfl rfl rfl ?_
  refine v_astore (lv2 := [(5, .ref (A (22, (u).toNatClampNeg))), (0, .ref (A (0, 0))), (1, .int (u)), (2, .int (a)), (3, .int (x)), (4, .int (y))]) (pc := 5) C dX11_draft_5 (by decide) rfl ?_
  refine v_aload_n (pc := 7) C dX11_draft_7 1 rfl rfl ?_
  refine v_iload_n (pc := 8) C dX11_draft_8 3 rfl rfl ?_
  refine v_callV (pc := 9) C (0, 0) ck_0 rfl (c_X11_needFile hG (a) ) 1 wd_748 wd_62 wd_745 wd_747 wd_13 (by decide +kernel) (by decide) (by decide) rfl ([]) rfl (Nat.le_of_ble_eq_true rfl) (by decide) dX11_draft_9 (fun cls9 A9 h9 hE9 => by obtain ⟨q9, rfl, rfl, rfl⟩ := hE9; exact v_out C hnx ⟨(by rw [show (X_X11_draft g u a x y) = (X_X11_needFile g (a)) from (by rw [X_X11_draft, if_pos x_1, if_neg q9])]; exact q9), (by rw [show (X_X11_draft g u a x y) = (X_X11_needFile g (a)) from (by rw [X_X11_draft, if_pos x_1, if_neg q9])]), rfl, (congrArg (fun q => w q r) (by show _ = _; rw [S_X11_draft, if_pos x_1, if_neg q9]))⟩ (by decide) (by decide)) (fun v9 A9 h9 hR9 => ?_)
  obtain ⟨x_2, rfl, hA9, rfl⟩ := hR9
  obtain rfl := hA9.symm
  refine v_st (k2 := 2) (n2 := 12) (st2 := [.ref (A (30, (a).toNatClampNeg))]) rfl rfl rfl ?_
  refine v_astore (lv2 := [(6, .ref (A (30, (a).toNatClampNeg))), (5, .ref (A (22, (u).toNatClampNeg))), (0, .ref (A (0, 0))), (1, .int (u)), (2, .int (a)), (3, .int (x)), (4, .int (y))]) (pc := 12) C dX11_draft_12 (by decide) rfl ?_
  refine v_aload_n (pc := 14) C dX11_draft_14 2 rfl rfl ?_
  refine v_iload_n (pc := 15) C dX11_draft_15 5 rfl rfl ?_
  refine v_callV (pc := 16) C (0, 0) ck_0 rfl (c_X11_needPartNumber hG (x) ) 1 wd_753 wd_62 wd_750 wd_752 wd_14 (by decide +kernel) (by decide) (by decide) rfl ([]) rfl (Nat.le_of_ble_eq_true rfl) (by decide) dX11_draft_16 (fun cls9 A9 h9 hE9 => by obtain ⟨q9, rfl, rfl, rfl⟩ := hE9; exact v_out C hnx ⟨(by rw [show (X_X11_draft g u a x y) = (X_X11_needPartNumber g (x)) from (by rw [X_X11_draft, if_pos x_1, if_pos x_2, if_neg q9])]; exact q9), (by rw [show (X_X11_draft g u a x y) = (X_X11_needPartNumber g (x)) from (by rw [X_X11_draft, if_pos x_1, if_pos x_2, if_neg q9])]), rfl, (congrArg (fun q => w q r) (by show _ = _; rw [S_X11_draft, if_pos x_1, if_pos x_2, if_neg q9]))⟩ (by decide) (by decide)) (fun v9 A9 h9 hR9 => ?_)
  obtain ⟨x_3, rfl, hA9, rfl⟩ := hR9
  obtain rfl := hA9.symm
  refine v_st (k2 := 3) (n2 := 18) (st2 := []) rfl rfl rfl ?_
  refine v_bipush (v := 8) (pc := 19) C dX11_draft_19 (by decide) ?_
  refine v_iload_n (pc := 21) C dX11_draft_21 4 rfl rfl ?_
  refine v_imul (pc := 22) C dX11_draft_22 ?_
  refine v_iload_n (pc := 23) C dX11_draft_23 5 rfl rfl ?_
  refine v_iadd (pc := 24) C dX11_draft_24 ?_
  refine v_istore (lv2 := [(7, .int (((8 * a) + x))), (6, .ref (A (30, (a).toNatClampNeg))), (5, .ref (A (22, (u).toNatClampNeg))), (0, .ref (A (0, 0))), (1, .int (u)), (2, .int (a)), (3, .int (x)), (4, .int (y))]) (pc := 25) C dX11_draft_25 (by decide) rfl ?_
  refine v_aload (pc := 27) C dX11_draft_27 2 rfl ?_
  refine v_get (pc := 29) C (22, (u).toNatClampNeg) (v := .int ((g 21 (u).toNatClampNeg 0))) (ck_22 (g := g) (ok_needUser x_1)) rfl 3 (by decide) inX9 wd_477 rfl rfl dX11_draft_29 ?_
  refine v_if_eq (pc := 32) (tgt := 48) C dX11_draft_32 (by decide) (fun c_4 => ?_) (fun c_4 => ?_)
  · skip
    exact v_throwW (pc := 48) C hnx (cls := "java/lang/IllegalStateException") (text := "the user is not away, or has 10 drafts for other parts") (by decide +kernel) wd_431 wd_73 (by decide +kernel) at_IllegalStateException (by decide) (by decide) (by decide) dX11_draft_48 dX11_draft_51 dX11_draft_52 dX11_draft_55 dX11_draft_58 ⟨by rw [show (X_X11_draft g u a x y) = 3 from (by rw [X_X11_draft, if_pos x_1, if_pos x_2, if_pos x_3, if_pos c_4])]; decide, by rw [show (X_X11_draft g u a x y) = 3 from (by rw [X_X11_draft, if_pos x_1, if_pos x_2, if_pos x_3, if_pos c_4])]; rfl, rfl, (congrArg (fun q => w q r) (by show _ = _; rw [S_X11_draft, if_pos x_1, if_pos x_2, if_pos x_3, if_pos c_4]))⟩
  · skip
    refine v_aload (pc := 35) C dX11_draft_35 2 rfl ?_
    refine v_get (pc := 37) C (22, (u).toNatClampNeg) (v := .ref (A (23, (u).toNatClampNeg))) (ck_22 (g := g) (ok_needUser x_1)) rfl 2 (by decide) inX9 wd_476 rfl rfl dX11_draft_37 ?_
    refine v_iload (pc := 40) C dX11_draft_40 0 rfl ?_
    refine v_callV (pc := 42) C (23, (u).toNatClampNeg) (ck_23 (g := g) (ok_needUser x_1)) rfl (c_X1_hasRoomFor hG ((u).toNatClampNeg) (((8 * a) + x)) (ok_needUser x_1)) 1 wd_1249 wd_75 wd_1246 wd_1247 wd_1248 (by decide +kernel) (by decide) (by decide) rfl ([]) rfl (Nat.le_of_ble_eq_true rfl) (by decide) dX11_draft_42 (fun _ _ _ q => q.elim) (fun v9 A9 h9 hR9 => ?_)
    obtain ⟨rfl, hA9, rfl⟩ := hR9
    obtain rfl := hA9.symm
    refine v_st (k2 := 3) (n2 := 18) (st2 := [.int ((V_X1_hasRoomFor g ((u).toNatClampNeg) (((8 * a) + x))))]) rfl rfl rfl ?_
    refine v_if_ne (pc := 45) (tgt := 59) C dX11_draft_45 (by decide) (fun c_5 => ?_) (fun c_5 => ?_)
    · skip
      refine v_aload (pc := 59) C dX11_draft_59 2 rfl ?_
      refine v_get (pc := 61) C (22, (u).toNatClampNeg) (v := .ref (A (23, (u).toNatClampNeg))) (ck_22 (g := g) (ok_needUser x_1)) rfl 2 (by decide) inX9 wd_476 rfl rfl dX11_draft_61 ?_
      refine v_iload (pc := 64) C dX11_draft_64 0 rfl ?_
      refine v_iload (pc := 66) C dX11_draft_66 7 rfl ?_
      refine v_aload (pc := 68) C dX11_draft_68 1 rfl ?_
      refine v_iload_n (pc := 70) C dX11_draft_70 6 rfl rfl ?_
      refine v_callV (pc := 71) C (30, (a).toNatClampNeg) (ck_30 (g := g) (ok_needFile x_2)) rfl (c_X4_writesOf hG ((a).toNatClampNeg) (x) (ok_needFile x_2)) 1 wd_863 wd_80 wd_860 wd_861 wd_862 (by decide +kernel) (by decide) (by decide) rfl ([.int (y), .int (((8 * a) + x)), .ref (A (23, (u).toNatClampNeg))]) rfl (Nat.le_of_ble_eq_true rfl) (by decide) dX11_draft_71 (fun _ _ _ q => q.elim) (fun v9 A9 h9 hR9 => ?_)
      obtain ⟨rfl, hA9, rfl⟩ := hR9
      obtain rfl := hA9.symm
      refine v_st (k2 := 3) (n2 := 18) (st2 := [.int ((V_X4_writesOf g ((a).toNatClampNeg) (x))), .int (y), .int (((8 * a) + x)), .ref (A (23, (u).toNatClampNeg))]) rfl rfl rfl ?_
      refine v_callV (pc := 74) C (23, (u).toNatClampNeg) (ck_23 (g := g) (ok_needUser x_1)) rfl (c_X1_keep hG ((u).toNatClampNeg) (((8 * a) + x)) (y) ((V_X4_writesOf g ((a).toNatClampNeg) (x))) (ok_needUser x_1) hc) 3 wd_1258 wd_75 wd_1255 wd_1256 wd_1257 (by decide +kernel) (by decide) (by decide) rfl ([]) rfl (Nat.le_of_ble_eq_true rfl) (by decide) dX11_draft_74 (fun _ _ _ q => q.elim) (fun v9 A9 h9 hR9 => ?_)
      obtain ⟨rfl, hA9, rfl⟩ := hR9
      obtain rfl := hA9.symm
      refine v_st (k2 := 3) (n2 := 18) (st2 := []) rfl rfl rfl ?_
      refine v_aload (pc := 77) C dX11_draft_77 2 rfl ?_
      refine v_get (pc := 79) C (22, (u).toNatClampNeg) (v := .ref (A (23, (u).toNatClampNeg))) (ck_22 (g := (S_X1_keep g ((u).toNatClampNeg) (((8 * a) + x)) (y) ((V_X4_writesOf g ((a).toNatClampNeg) (x))))) (vtn (F_X1_keep (by decide) (by decide) (by decide) (by decide)) (ok_needUser x_1))) rfl 2 (by decide) inX9 wd_476 rfl rfl dX11_draft_79 ?_
      refine v_callV (pc := 82) C (23, (u).toNatClampNeg) (ck_23 (g := (S_X1_keep g ((u).toNatClampNeg) (((8 * a) + x)) (y) ((V_X4_writesOf g ((a).toNatClampNeg) (x))))) (vtn (F_X1_keep (by decide) (by decide) (by decide) (by decide)) (ok_needUser x_1))) rfl (c_X1_count hG ((u).toNatClampNeg) (vtn (F_X1_keep (by decide) (by decide) (by decide) (by decide)) (ok_needUser x_1))) 0 wd_1270 wd_75 wd_1267 wd_1268 wd_1269 (by decide +kernel) (by decide) (by decide) rfl ([]) rfl (Nat.le_of_ble_eq_true rfl) (by decide) dX11_draft_82 (fun _ _ _ q => q.elim) (fun v9 A9 h9 hR9 => ?_)
      obtain ⟨rfl, hA9, rfl⟩ := hR9
      obtain rfl := hA9.symm
      refine v_st (k2 := 3) (n2 := 18) (st2 := [.int ((V_X1_count (S_X1_keep g ((u).toNatClampNeg) (((8 * a) + x)) (y) ((V_X4_writesOf g ((a).toNatClampNeg) (x)))) ((u).toNatClampNeg)))]) rfl rfl rfl ?_
      exact v_iret (pc := 85) C (by decide) (by decide) dX11_draft_85 ⟨(by rw [X_X11_draft, if_pos x_1, if_pos x_2, if_pos x_3, if_neg c_4, if_neg c_5]), (congrArg (fun q => some (Value.int q)) (by show _ = _; rw [V_X11_draft, if_pos x_1, if_pos x_2, if_pos x_3, if_neg c_4, if_neg c_5])), rfl, (congrArg (fun q => w q r) (by show _ = _; rw [S_X11_draft, if_pos x_1, if_pos x_2, if_pos x_3, if_neg c_4, if_neg c_5]))⟩
    · skip
      exact v_throwW (pc := 48) C hnx (cls := "java/lang/IllegalStateException") (text := "the user is not away, or has 10 drafts for other parts") (by decide +kernel) wd_431 wd_73 (by decide +kernel) at_IllegalStateException (by decide) (by decide) (by decide) dX11_draft_48 dX11_draft_51 dX11_draft_52 dX11_draft_55 dX11_draft_58 ⟨by rw [show (X_X11_draft g u a x y) = 3 from (by rw [X_X11_draft, if_pos x_1, if_pos x_2, if_pos x_3, if_neg c_4, if_pos c_5])]; decide, by rw [show (X_X11_draft g u a x y) = 3 from (by rw [X_X11_draft, if_pos x_1, if_pos x_2, if_pos x_3, if_neg c_4, if_pos c_5])]; rfl, rfl, (congrArg (fun q => w q r) (by show _ = _; rw [S_X11_draft, if_pos x_1, if_pos x_2, if_pos x_3, if_neg c_4, if_pos c_5]))⟩
