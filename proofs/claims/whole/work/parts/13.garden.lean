
/-- a file that is there has a group that is there -/
def vI1 (g : vS) : Prop := ∀ f : Nat, g 105 f 0 ≠ 0 → g 104 (g 50 f 0).toNatClampNeg 0 ≠ 0
theorem vI1_k {g G : vS} (h1 : ∀ i j, G 105 i j = g 105 i j) (h2 : ∀ i j, G 50 i j = g 50 i j) (h3 : ∀ i j, G 104 i j = g 104 i j) (h : vI1 g) : vI1 G := fun f hf => by
  rw [h2, h3]
  rw [h1] at hf
  exact h f hf

def X_X11_needUser (g : vS) (u : Int32) : Nat := (if u < 0 then 1 else (if (g 0 0 0) ≤ u then 1 else (if u < 6 then (if (g 103 (u).toNatClampNeg 0) = 0 then 1 else 0) else 1)))
set_option maxHeartbeats 4000000 in
set_option maxRecDepth 100000 in
theorem c_X11_needUser {G : vG} (hG : G.1.stackTraces = false) {A : vN → Nat} {g : vS} {r : vH} (u : Int32)  : vCt G yX11_needUser cX11_needUser 3 (some (.object "Vaultgarden$User")) 0 [.ref (A (0, 0)), .int (u)] A (w g r) (fun v A2 h2 => X_X11_needUser g u = 0 ∧ v = some (.ref (A (22, (u).toNatClampNeg))) ∧ A2 = A ∧ h2 = w g r) (fun cls A2 h2 => X_X11_needUser g u ≠ 0 ∧ cls = vEx (X_X11_needUser g u) ∧ A2 = A ∧ h2 = w g r) 1 6 := by
  refine v_of hG (by decide +kernel) (Nat.le_of_ble_eq_true rfl) (lv := [(0, .ref (A (0, 0))), (1, .int (u))]) rfl (fun X C hnx => ?_)
  have C : vC G X cX11_needUser 3 RX11 (some (.object "Vaultgarden$User")) "needUser" 0 1 6 := C
  refine v_iload_n (pc := 0) C dX11_needUser_0 1 rfl rfl ?_
  refine v_if_lt (pc := 1) (tgt := 21) C dX11_needUser_1 (by decide) (fun c_1 => ?_) (fun c_1 => ?_)
  · skip
    exact vn_throwW (pc := 21) C hnx (text := "there is no such user") wd_514 wd_76 (by decide +kernel) at_NoSuchElementException (by decide) (by decide) (by decide) dX11_needUser_21 dX11_needUser_24 dX11_needUser_25 dX11_needUser_28 dX11_needUser_31 ⟨by rw [show (X_X11_needUser g u) = 1 from (by rw [X_X11_needUser, if_pos c_1])]; decide, by rw [show (X_X11_needUser g u) = 1 from (by rw [X_X11_needUser, if_pos c_1])]; rfl, rfl, rfl⟩
  · skip
    refine v_iload_n (pc := 4) C dX11_needUser_4 1 rfl rfl ?_
    refine v_aload_n (pc := 5) C dX11_needUser_5 0 rfl rfl ?_
    refine v_get (pc := 6) C (0, 0) (v := .int ((g 0 0 0))) ck_0 rfl 8 (by decide) inX11 wd_228 rfl rfl dX11_needUser_6 ?_
    refine v_icmp_ge (pc := 9) (tgt := 21) C dX11_needUser_9 (by decide) (fun c_2 => ?_) (fun c_2 => ?_)
    · skip
      exact vn_throwW (pc := 21) C hnx (text := "there is no such user") wd_514 wd_76 (by decide +kernel) at_NoSuchElementException (by decide) (by decide) (by decide) dX11_needUser_21 dX11_needUser_24 dX11_needUser_25 dX11_needUser_28 dX11_needUser_31 ⟨by rw [show (X_X11_needUser g u) = 1 from (by rw [X_X11_needUser, if_neg c_1, if_pos c_2])]; decide, by rw [show (X_X11_needUser g u) = 1 from (by rw [X_X11_needUser, if_neg c_1, if_pos c_2])]; rfl, rfl, rfl⟩
    · skip
      refine v_iload_n (pc := 12) C dX11_needUser_12 1 rfl rfl ?_
      refine v_aload_n (pc := 13) C dX11_needUser_13 0 rfl rfl ?_
      refine v_get (pc := 14) C (0, 0) (v := .ref (A (1, 0))) ck_0 rfl 0 (by decide) inX11 wd_220 rfl rfl dX11_needUser_14 ?_
      refine v_alen (pc := 17) C (1, 0) (v := 6) ck_1 rfl (by decide) dX11_needUser_17 ?_
      refine v_icmp_lt (pc := 18) (tgt := 32) C dX11_needUser_18 (by decide) (fun c_3 => ?_) (fun c_3 => ?_)
      · skip
        refine v_aload_n (pc := 32) C dX11_needUser_32 0 rfl rfl ?_
        refine v_get (pc := 33) C (0, 0) (v := .ref (A (1, 0))) ck_0 rfl 0 (by decide) inX11 wd_220 rfl rfl dX11_needUser_33 ?_
        refine v_iload_n (pc := 36) C dX11_needUser_36 1 rfl rfl ?_
        rcases Classical.em ((g 103 (u).toNatClampNeg 0) = 0) with c_4 | c_4
        · skip
          refine v_aaldN (pc := 37) C (1, 0) ck_1 rfl rfl (by (try simp only [Int32.le_iff_toInt_le, Int32.lt_iff_toInt_lt, ← Int32.toInt_inj, vp_in_iff, Int32.reduceToInt] at c_1 c_2 c_3 ⊢) <;> omega) ((if_pos c_4 : (fun k => if g 103 k 0 = 0 then none else some (22, k)) (u).toNatClampNeg = none)) dX11_needUser_37 ?_
          refine v_astore_nN (lv2 := [(2, .null), (0, .ref (A (0, 0))), (1, .int (u))]) (pc := 38) C dX11_needUser_38 rfl (by decide) rfl ?_
          refine v_aload_nN (pc := 39) C dX11_needUser_39 0 rfl rfl ?_
          refine v_ifnonnullN (pc := 40) C dX11_needUser_40 ?_
          exact vn_throwW (pc := 43) C hnx (text := "there is no such user") wd_514 wd_76 (by decide +kernel) at_NoSuchElementException (by decide) (by decide) (by decide) dX11_needUser_43 dX11_needUser_46 dX11_needUser_47 dX11_needUser_50 dX11_needUser_53 ⟨by rw [show (X_X11_needUser g u) = 1 from (by rw [X_X11_needUser, if_neg c_1, if_neg c_2, if_pos c_3, if_pos c_4])]; decide, by rw [show (X_X11_needUser g u) = 1 from (by rw [X_X11_needUser, if_neg c_1, if_neg c_2, if_pos c_3, if_pos c_4])]; rfl, rfl, rfl⟩
        · skip
          refine v_aald (pc := 37) C (1, 0) ck_1 rfl rfl (by (try simp only [Int32.le_iff_toInt_le, Int32.lt_iff_toInt_lt, ← Int32.toInt_inj, vp_in_iff, Int32.reduceToInt] at c_1 c_2 c_3 ⊢) <;> omega) (22, (u).toNatClampNeg) ((if_neg c_4 : (fun k => if g 103 k 0 = 0 then none else some (22, k)) (u).toNatClampNeg = some (22, (u).toNatClampNeg))) dX11_needUser_37 ?_
          refine v_astore_n (lv2 := [(2, .ref (A (22, (u).toNatClampNeg))), (0, .ref (A (0, 0))), (1, .int (u))]) (pc := 38) C dX11_needUser_38 rfl (by decide) rfl ?_
          refine v_aload_n (pc := 39) C dX11_needUser_39 0 rfl rfl ?_
          refine v_ifnonnull (tgt := 54) (pc := 40) C dX11_needUser_40 (by decide) ?_
          refine v_aload_n (pc := 54) C dX11_needUser_54 0 rfl rfl ?_
          exact v_aret (pc := 55) C (Or.inl ⟨_, rfl⟩) (Or.inr ⟨_, rfl⟩) (by decide) (by decide) dX11_needUser_55 ⟨(by rw [X_X11_needUser, if_neg c_1, if_neg c_2, if_pos c_3, if_neg c_4]), rfl, rfl, rfl⟩
      · skip
        exact vn_throwW (pc := 21) C hnx (text := "there is no such user") wd_514 wd_76 (by decide +kernel) at_NoSuchElementException (by decide) (by decide) (by decide) dX11_needUser_21 dX11_needUser_24 dX11_needUser_25 dX11_needUser_28 dX11_needUser_31 ⟨by rw [show (X_X11_needUser g u) = 1 from (by rw [X_X11_needUser, if_neg c_1, if_neg c_2, if_neg c_3])]; decide, by rw [show (X_X11_needUser g u) = 1 from (by rw [X_X11_needUser, if_neg c_1, if_neg c_2, if_neg c_3])]; rfl, rfl, rfl⟩
theorem ok_needUser {g : vS} {u : Int32} (h : X_X11_needUser g u = 0) : g 103 (u).toNatClampNeg 0 ≠ 0 := by
  intro q
  revert h
  unfold X_X11_needUser
  (repeat' split) <;> first | decide | (intro _; contradiction) | simp_all
def X_X11_needGroup (g : vS) (u : Int32) : Nat := (if u < 0 then 1 else (if (g 1 0 0) ≤ u then 1 else (if u < 5 then (if (g 104 (u).toNatClampNeg 0) = 0 then 1 else 0) else 1)))
set_option maxHeartbeats 4000000 in
set_option maxRecDepth 100000 in
theorem c_X11_needGroup {G : vG} (hG : G.1.stackTraces = false) {A : vN → Nat} {g : vS} {r : vH} (u : Int32)  : vCt G yX11_needGroup cX11_needGroup 3 (some (.object "Vaultgarden$Group")) 0 [.ref (A (0, 0)), .int (u)] A (w g r) (fun v A2 h2 => X_X11_needGroup g u = 0 ∧ v = some (.ref (A (27, (u).toNatClampNeg))) ∧ A2 = A ∧ h2 = w g r) (fun cls A2 h2 => X_X11_needGroup g u ≠ 0 ∧ cls = vEx (X_X11_needGroup g u) ∧ A2 = A ∧ h2 = w g r) 1 6 := by
  refine v_of hG (by decide +kernel) (Nat.le_of_ble_eq_true rfl) (lv := [(0, .ref (A (0, 0))), (1, .int (u))]) rfl (fun X C hnx => ?_)
  have C : vC G X cX11_needGroup 3 RX11 (some (.object "Vaultgarden$Group")) "needGroup" 0 1 6 := C
  refine v_iload_n (pc := 0) C dX11_needGroup_0 1 rfl rfl ?_
  refine v_if_lt (pc := 1) (tgt := 21) C dX11_needGroup_1 (by decide) (fun c_1 => ?_) (fun c_1 => ?_)
  · skip
    exact vn_throwW (pc := 21) C hnx (text := "there is no such group") wd_514 wd_76 (by decide +kernel) at_NoSuchElementException (by decide) (by decide) (by decide) dX11_needGroup_21 dX11_needGroup_24 dX11_needGroup_25 dX11_needGroup_28 dX11_needGroup_31 ⟨by rw [show (X_X11_needGroup g u) = 1 from (by rw [X_X11_needGroup, if_pos c_1])]; decide, by rw [show (X_X11_needGroup g u) = 1 from (by rw [X_X11_needGroup, if_pos c_1])]; rfl, rfl, rfl⟩
  · skip
    refine v_iload_n (pc := 4) C dX11_needGroup_4 1 rfl rfl ?_
    refine v_aload_n (pc := 5) C dX11_needGroup_5 0 rfl rfl ?_
    refine v_get (pc := 6) C (0, 0) (v := .int ((g 1 0 0))) ck_0 rfl 9 (by decide) inX11 wd_229 rfl rfl dX11_needGroup_6 ?_
    refine v_icmp_ge (pc := 9) (tgt := 21) C dX11_needGroup_9 (by decide) (fun c_2 => ?_) (fun c_2 => ?_)
    · skip
      exact vn_throwW (pc := 21) C hnx (text := "there is no such group") wd_514 wd_76 (by decide +kernel) at_NoSuchElementException (by decide) (by decide) (by decide) dX11_needGroup_21 dX11_needGroup_24 dX11_needGroup_25 dX11_needGroup_28 dX11_needGroup_31 ⟨by rw [show (X_X11_needGroup g u) = 1 from (by rw [X_X11_needGroup, if_neg c_1, if_pos c_2])]; decide, by rw [show (X_X11_needGroup g u) = 1 from (by rw [X_X11_needGroup, if_neg c_1, if_pos c_2])]; rfl, rfl, rfl⟩
    · skip
      refine v_iload_n (pc := 12) C dX11_needGroup_12 1 rfl rfl ?_
      refine v_aload_n (pc := 13) C dX11_needGroup_13 0 rfl rfl ?_
      refine v_get (pc := 14) C (0, 0) (v := .ref (A (2, 0))) ck_0 rfl 1 (by decide) inX11 wd_221 rfl rfl dX11_needGroup_14 ?_
      refine v_alen (pc := 17) C (2, 0) (v := 5) ck_2 rfl (by decide) dX11_needGroup_17 ?_
      refine v_icmp_lt (pc := 18) (tgt := 32) C dX11_needGroup_18 (by decide) (fun c_3 => ?_) (fun c_3 => ?_)
      · skip
        refine v_aload_n (pc := 32) C dX11_needGroup_32 0 rfl rfl ?_
        refine v_get (pc := 33) C (0, 0) (v := .ref (A (2, 0))) ck_0 rfl 1 (by decide) inX11 wd_221 rfl rfl dX11_needGroup_33 ?_
        refine v_iload_n (pc := 36) C dX11_needGroup_36 1 rfl rfl ?_
        rcases Classical.em ((g 104 (u).toNatClampNeg 0) = 0) with c_4 | c_4
        · skip
          refine v_aaldN (pc := 37) C (2, 0) ck_2 rfl rfl (by (try simp only [Int32.le_iff_toInt_le, Int32.lt_iff_toInt_lt, ← Int32.toInt_inj, vp_in_iff, Int32.reduceToInt] at c_1 c_2 c_3 ⊢) <;> omega) ((if_pos c_4 : (fun k => if g 104 k 0 = 0 then none else some (27, k)) (u).toNatClampNeg = none)) dX11_needGroup_37 ?_
          refine v_astore_nN (lv2 := [(2, .null), (0, .ref (A (0, 0))), (1, .int (u))]) (pc := 38) C dX11_needGroup_38 rfl (by decide) rfl ?_
          refine v_aload_nN (pc := 39) C dX11_needGroup_39 0 rfl rfl ?_
          refine v_ifnonnullN (pc := 40) C dX11_needGroup_40 ?_
          exact vn_throwW (pc := 43) C hnx (text := "there is no such group") wd_514 wd_76 (by decide +kernel) at_NoSuchElementException (by decide) (by decide) (by decide) dX11_needGroup_43 dX11_needGroup_46 dX11_needGroup_47 dX11_needGroup_50 dX11_needGroup_53 ⟨by rw [show (X_X11_needGroup g u) = 1 from (by rw [X_X11_needGroup, if_neg c_1, if_neg c_2, if_pos c_3, if_pos c_4])]; decide, by rw [show (X_X11_needGroup g u) = 1 from (by rw [X_X11_needGroup, if_neg c_1, if_neg c_2, if_pos c_3, if_pos c_4])]; rfl, rfl, rfl⟩
        · skip
          refine v_aald (pc := 37) C (2, 0) ck_2 rfl rfl (by (try simp only [Int32.le_iff_toInt_le, Int32.lt_iff_toInt_lt, ← Int32.toInt_inj, vp_in_iff, Int32.reduceToInt] at c_1 c_2 c_3 ⊢) <;> omega) (27, (u).toNatClampNeg) ((if_neg c_4 : (fun k => if g 104 k 0 = 0 then none else some (27, k)) (u).toNatClampNeg = some (27, (u).toNatClampNeg))) dX11_needGroup_37 ?_
          refine v_astore_n (lv2 := [(2, .ref (A (27, (u).toNatClampNeg))), (0, .ref (A (0, 0))), (1, .int (u))]) (pc := 38) C dX11_needGroup_38 rfl (by decide) rfl ?_
          refine v_aload_n (pc := 39) C dX11_needGroup_39 0 rfl rfl ?_
          refine v_ifnonnull (tgt := 54) (pc := 40) C dX11_needGroup_40 (by decide) ?_
          refine v_aload_n (pc := 54) C dX11_needGroup_54 0 rfl rfl ?_
          exact v_aret (pc := 55) C (Or.inl ⟨_, rfl⟩) (Or.inr ⟨_, rfl⟩) (by decide) (by decide) dX11_needGroup_55 ⟨(by rw [X_X11_needGroup, if_neg c_1, if_neg c_2, if_pos c_3, if_neg c_4]), rfl, rfl, rfl⟩
      · skip
        exact vn_throwW (pc := 21) C hnx (text := "there is no such group") wd_514 wd_76 (by decide +kernel) at_NoSuchElementException (by decide) (by decide) (by decide) dX11_needGroup_21 dX11_needGroup_24 dX11_needGroup_25 dX11_needGroup_28 dX11_needGroup_31 ⟨by rw [show (X_X11_needGroup g u) = 1 from (by rw [X_X11_needGroup, if_neg c_1, if_neg c_2, if_neg c_3])]; decide, by rw [show (X_X11_needGroup g u) = 1 from (by rw [X_X11_needGroup, if_neg c_1, if_neg c_2, if_neg c_3])]; rfl, rfl, rfl⟩
theorem ok_needGroup {g : vS} {u : Int32} (h : X_X11_needGroup g u = 0) : g 104 (u).toNatClampNeg 0 ≠ 0 := by
  intro q
  revert h
  unfold X_X11_needGroup
  (repeat' split) <;> first | decide | (intro _; contradiction) | simp_all
def X_X11_needFile (g : vS) (u : Int32) : Nat := (if u < 0 then 1 else (if (g 2 0 0) ≤ u then 1 else (if u < 20 then (if (g 105 (u).toNatClampNeg 0) = 0 then 1 else 0) else 1)))
set_option maxHeartbeats 4000000 in
set_option maxRecDepth 100000 in
theorem c_X11_needFile {G : vG} (hG : G.1.stackTraces = false) {A : vN → Nat} {g : vS} {r : vH} (u : Int32)  : vCt G yX11_needFile cX11_needFile 3 (some (.object "Vaultgarden$KeptFile")) 0 [.ref (A (0, 0)), .int (u)] A (w g r) (fun v A2 h2 => X_X11_needFile g u = 0 ∧ v = some (.ref (A (30, (u).toNatClampNeg))) ∧ A2 = A ∧ h2 = w g r) (fun cls A2 h2 => X_X11_needFile g u ≠ 0 ∧ cls = vEx (X_X11_needFile g u) ∧ A2 = A ∧ h2 = w g r) 1 6 := by
  refine v_of hG (by decide +kernel) (Nat.le_of_ble_eq_true rfl) (lv := [(0, .ref (A (0, 0))), (1, .int (u))]) rfl (fun X C hnx => ?_)
  have C : vC G X cX11_needFile 3 RX11 (some (.object "Vaultgarden$KeptFile")) "needFile" 0 1 6 := C
  refine v_iload_n (pc := 0) C dX11_needFile_0 1 rfl rfl ?_
  refine v_if_lt (pc := 1) (tgt := 21) C dX11_needFile_1 (by decide) (fun c_1 => ?_) (fun c_1 => ?_)
  · skip
    exact vn_throwW (pc := 21) C hnx (text := "there is no such file") wd_514 wd_76 (by decide +kernel) at_NoSuchElementException (by decide) (by decide) (by decide) dX11_needFile_21 dX11_needFile_24 dX11_needFile_25 dX11_needFile_28 dX11_needFile_31 ⟨by rw [show (X_X11_needFile g u) = 1 from (by rw [X_X11_needFile, if_pos c_1])]; decide, by rw [show (X_X11_needFile g u) = 1 from (by rw [X_X11_needFile, if_pos c_1])]; rfl, rfl, rfl⟩
  · skip
    refine v_iload_n (pc := 4) C dX11_needFile_4 1 rfl rfl ?_
    refine v_aload_n (pc := 5) C dX11_needFile_5 0 rfl rfl ?_
    refine v_get (pc := 6) C (0, 0) (v := .int ((g 2 0 0))) ck_0 rfl 10 (by decide) inX11 wd_230 rfl rfl dX11_needFile_6 ?_
    refine v_icmp_ge (pc := 9) (tgt := 21) C dX11_needFile_9 (by decide) (fun c_2 => ?_) (fun c_2 => ?_)
    · skip
      exact vn_throwW (pc := 21) C hnx (text := "there is no such file") wd_514 wd_76 (by decide +kernel) at_NoSuchElementException (by decide) (by decide) (by decide) dX11_needFile_21 dX11_needFile_24 dX11_needFile_25 dX11_needFile_28 dX11_needFile_31 ⟨by rw [show (X_X11_needFile g u) = 1 from (by rw [X_X11_needFile, if_neg c_1, if_pos c_2])]; decide, by rw [show (X_X11_needFile g u) = 1 from (by rw [X_X11_needFile, if_neg c_1, if_pos c_2])]; rfl, rfl, rfl⟩
    · skip
      refine v_iload_n (pc := 12) C dX11_needFile_12 1 rfl rfl ?_
      refine v_aload_n (pc := 13) C dX11_needFile_13 0 rfl rfl ?_
      refine v_get (pc := 14) C (0, 0) (v := .ref (A (3, 0))) ck_0 rfl 2 (by decide) inX11 wd_222 rfl rfl dX11_needFile_14 ?_
      refine v_alen (pc := 17) C (3, 0) (v := 20) ck_3 rfl (by decide) dX11_needFile_17 ?_
      refine v_icmp_lt (pc := 18) (tgt := 32) C dX11_needFile_18 (by decide) (fun c_3 => ?_) (fun c_3 => ?_)
      · skip
        refine v_aload_n (pc := 32) C dX11_needFile_32 0 rfl rfl ?_
        refine v_get (pc := 33) C (0, 0) (v := .ref (A (3, 0))) ck_0 rfl 2 (by decide) inX11 wd_222 rfl rfl dX11_needFile_33 ?_
        refine v_iload_n (pc := 36) C dX11_needFile_36 1 rfl rfl ?_
        rcases Classical.em ((g 105 (u).toNatClampNeg 0) = 0) with c_4 | c_4
        · skip
          refine v_aaldN (pc := 37) C (3, 0) ck_3 rfl rfl (by (try simp only [Int32.le_iff_toInt_le, Int32.lt_iff_toInt_lt, ← Int32.toInt_inj, vp_in_iff, Int32.reduceToInt] at c_1 c_2 c_3 ⊢) <;> omega) ((if_pos c_4 : (fun k => if g 105 k 0 = 0 then none else some (30, k)) (u).toNatClampNeg = none)) dX11_needFile_37 ?_
          refine v_astore_nN (lv2 := [(2, .null), (0, .ref (A (0, 0))), (1, .int (u))]) (pc := 38) C dX11_needFile_38 rfl (by decide) rfl ?_
          refine v_aload_nN (pc := 39) C dX11_needFile_39 0 rfl rfl ?_
          refine v_ifnonnullN (pc := 40) C dX11_needFile_40 ?_
          exact vn_throwW (pc := 43) C hnx (text := "there is no such file") wd_514 wd_76 (by decide +kernel) at_NoSuchElementException (by decide) (by decide) (by decide) dX11_needFile_43 dX11_needFile_46 dX11_needFile_47 dX11_needFile_50 dX11_needFile_53 ⟨by rw [show (X_X11_needFile g u) = 1 from (by rw [X_X11_needFile, if_neg c_1, if_neg c_2, if_pos c_3, if_pos c_4])]; decide, by rw [show (X_X11_needFile g u) = 1 from (by rw [X_X11_needFile, if_neg c_1, if_neg c_2, if_pos c_3, if_pos c_4])]; rfl, rfl, rfl⟩
        · skip
          refine v_aald (pc := 37) C (3, 0) ck_3 rfl rfl (by (try simp only [Int32.le_iff_toInt_le, Int32.lt_iff_toInt_lt, ← Int32.toInt_inj, vp_in_iff, Int32.reduceToInt] at c_1 c_2 c_3 ⊢) <;> omega) (30, (u).toNatClampNeg) ((if_neg c_4 : (fun k => if g 105 k 0 = 0 then none else some (30, k)) (u).toNatClampNeg = some (30, (u).toNatClampNeg))) dX11_needFile_37 ?_
          refine v_astore_n (lv2 := [(2, .ref (A (30, (u).toNatClampNeg))), (0, .ref (A (0, 0))), (1, .int (u))]) (pc := 38) C dX11_needFile_38 rfl (by decide) rfl ?_
          refine v_aload_n (pc := 39) C dX11_needFile_39 0 rfl rfl ?_
          refine v_ifnonnull (tgt := 54) (pc := 40) C dX11_needFile_40 (by decide) ?_
          refine v_aload_n (pc := 54) C dX11_needFile_54 0 rfl rfl ?_
          exact v_aret (pc := 55) C (Or.inl ⟨_, rfl⟩) (Or.inr ⟨_, rfl⟩) (by decide) (by decide) dX11_needFile_55 ⟨(by rw [X_X11_needFile, if_neg c_1, if_neg c_2, if_pos c_3, if_neg c_4]), rfl, rfl, rfl⟩
      · skip
        exact vn_throwW (pc := 21) C hnx (text := "there is no such file") wd_514 wd_76 (by decide +kernel) at_NoSuchElementException (by decide) (by decide) (by decide) dX11_needFile_21 dX11_needFile_24 dX11_needFile_25 dX11_needFile_28 dX11_needFile_31 ⟨by rw [show (X_X11_needFile g u) = 1 from (by rw [X_X11_needFile, if_neg c_1, if_neg c_2, if_neg c_3])]; decide, by rw [show (X_X11_needFile g u) = 1 from (by rw [X_X11_needFile, if_neg c_1, if_neg c_2, if_neg c_3])]; rfl, rfl, rfl⟩
theorem ok_needFile {g : vS} {u : Int32} (h : X_X11_needFile g u = 0) : g 105 (u).toNatClampNeg 0 ≠ 0 := by
  intro q
  revert h
  unfold X_X11_needFile
  (repeat' split) <;> first | decide | (intro _; contradiction) | simp_all
def X_X11_needPartNumber (g : vS) (p : Int32) : Nat := (if p < 0 then 2 else (if p < 8 then 0 else 2))
set_option maxHeartbeats 4000000 in
set_option maxRecDepth 100000 in
theorem c_X11_needPartNumber {G : vG} (hG : G.1.stackTraces = false) {A : vN → Nat} {g : vS} {r : vH} (p : Int32)  : vCt G yX11_needPartNumber cX11_needPartNumber 2 none 0 [.ref (A (0, 0)), .int (p)] A (w g r) (fun v A2 h2 => X_X11_needPartNumber g p = 0 ∧ v = none ∧ A2 = A ∧ h2 = w g r) (fun cls A2 h2 => X_X11_needPartNumber g p ≠ 0 ∧ cls = vEx (X_X11_needPartNumber g p) ∧ A2 = A ∧ h2 = w g r) 1 6 := by
  refine v_of hG (by decide +kernel) (Nat.le_of_ble_eq_true rfl) (lv := [(0, .ref (A (0, 0))), (1, .int (p))]) rfl (fun X C hnx => ?_)
  have C : vC G X cX11_needPartNumber 2 RX11 none "needPartNumber" 0 1 6 := C
  refine v_iload_n (pc := 0) C dX11_needPartNumber_0 1 rfl rfl ?_
  refine v_if_lt (pc := 1) (tgt := 10) C dX11_needPartNumber_1 (by decide) (fun c_1 => ?_) (fun c_1 => ?_)
  · skip
    exact v_throwW (pc := 10) C hnx (cls := "java/lang/IllegalArgumentException") (text := "there is no such part") (by decide +kernel) wd_359 wd_72 (by decide +kernel) at_IllegalArgumentException (by decide) (by decide) (by decide) dX11_needPartNumber_10 dX11_needPartNumber_13 dX11_needPartNumber_14 dX11_needPartNumber_17 dX11_needPartNumber_20 ⟨by rw [show (X_X11_needPartNumber g p) = 2 from (by rw [X_X11_needPartNumber, if_pos c_1])]; decide, by rw [show (X_X11_needPartNumber g p) = 2 from (by rw [X_X11_needPartNumber, if_pos c_1])]; rfl, rfl, rfl⟩
  · skip
    refine v_iload_n (pc := 4) C dX11_needPartNumber_4 1 rfl rfl ?_
    refine v_bipush (v := 8) (pc := 5) C dX11_needPartNumber_5 (by decide) ?_
    refine v_icmp_lt (pc := 7) (tgt := 21) C dX11_needPartNumber_7 (by decide) (fun c_2 => ?_) (fun c_2 => ?_)
    · skip
      exact v_vret (pc := 21) C (by decide) (by decide) dX11_needPartNumber_21 ⟨(by rw [X_X11_needPartNumber, if_neg c_1, if_pos c_2]), rfl, rfl, rfl⟩
    · skip
      exact v_throwW (pc := 10) C hnx (cls := "java/lang/IllegalArgumentException") (text := "there is no such part") (by decide +kernel) wd_359 wd_72 (by decide +kernel) at_IllegalArgumentException (by decide) (by decide) (by decide) dX11_needPartNumber_10 dX11_needPartNumber_13 dX11_needPartNumber_14 dX11_needPartNumber_17 dX11_needPartNumber_20 ⟨by rw [show (X_X11_needPartNumber g p) = 2 from (by rw [X_X11_needPartNumber, if_neg c_1, if_neg c_2])]; decide, by rw [show (X_X11_needPartNumber g p) = 2 from (by rw [X_X11_needPartNumber, if_neg c_1, if_neg c_2])]; rfl, rfl, rfl⟩
def X_X11_needWord (g : vS) (x : Int32) : Nat := (if x < 0 then 2 else (if x ≤ 99 then 0 else 2))
set_option maxHeartbeats 4000000 in
set_option maxRecDepth 100000 in
theorem c_X11_needWord {G : vG} (hG : G.1.stackTraces = false) {A : vN → Nat} {g : vS} {r : vH} (x : Int32)  : vCt G yX11_needWord cX11_needWord 2 none 0 [.ref (A (0, 0)), .int (x)] A (w g r) (fun v A2 h2 => X_X11_needWord g x = 0 ∧ v = none ∧ A2 = A ∧ h2 = w g r) (fun cls A2 h2 => X_X11_needWord g x ≠ 0 ∧ cls = vEx (X_X11_needWord g x) ∧ A2 = A ∧ h2 = w g r) 1 6 := by
  refine v_of hG (by decide +kernel) (Nat.le_of_ble_eq_true rfl) (lv := [(0, .ref (A (0, 0))), (1, .int (x))]) rfl (fun X C hnx => ?_)
  have C : vC G X cX11_needWord 2 RX11 none "needWord" 0 1 6 := C
  refine v_iload_n (pc := 0) C dX11_needWord_0 1 rfl rfl ?_
  refine v_if_lt (pc := 1) (tgt := 10) C dX11_needWord_1 (by decide) (fun c_1 => ?_) (fun c_1 => ?_)
  · skip
    exact v_throwW (pc := 10) C hnx (cls := "java/lang/IllegalArgumentException") (text := "there is no such word") (by decide +kernel) wd_359 wd_72 (by decide +kernel) at_IllegalArgumentException (by decide) (by decide) (by decide) dX11_needWord_10 dX11_needWord_13 dX11_needWord_14 dX11_needWord_17 dX11_needWord_20 ⟨by rw [show (X_X11_needWord g x) = 2 from (by rw [X_X11_needWord, if_pos c_1])]; decide, by rw [show (X_X11_needWord g x) = 2 from (by rw [X_X11_needWord, if_pos c_1])]; rfl, rfl, rfl⟩
  · skip
    refine v_iload_n (pc := 4) C dX11_needWord_4 1 rfl rfl ?_
    refine v_bipush (v := 99) (pc := 5) C dX11_needWord_5 (by decide) ?_
    refine v_icmp_le (pc := 7) (tgt := 21) C dX11_needWord_7 (by decide) (fun c_2 => ?_) (fun c_2 => ?_)
    · skip
      exact v_vret (pc := 21) C (by decide) (by decide) dX11_needWord_21 ⟨(by rw [X_X11_needWord, if_neg c_1, if_pos c_2]), rfl, rfl, rfl⟩
    · skip
      exact v_throwW (pc := 10) C hnx (cls := "java/lang/IllegalArgumentException") (text := "there is no such word") (by decide +kernel) wd_359 wd_72 (by decide +kernel) at_IllegalArgumentException (by decide) (by decide) (by decide) dX11_needWord_10 dX11_needWord_13 dX11_needWord_14 dX11_needWord_17 dX11_needWord_20 ⟨by rw [show (X_X11_needWord g x) = 2 from (by rw [X_X11_needWord, if_neg c_1, if_neg c_2])]; decide, by rw [show (X_X11_needWord g x) = 2 from (by rw [X_X11_needWord, if_neg c_1, if_neg c_2])]; rfl, rfl, rfl⟩
def X_X11_needLeaves (g : vS) (n : Int32) : Nat := (if n < 0 then 2 else (if n ≤ (V_X5_count g) then 0 else 2))
set_option maxHeartbeats 4000000 in
set_option maxRecDepth 100000 in
theorem c_X11_needLeaves {G : vG} (hG : G.1.stackTraces = false) {A : vN → Nat} {g : vS} {r : vH} (n : Int32)  : vCt G yX11_needLeaves cX11_needLeaves 2 none 1 [.ref (A (0, 0)), .int (n)] A (w g r) (fun v A2 h2 => X_X11_needLeaves g n = 0 ∧ v = none ∧ A2 = A ∧ h2 = w g r) (fun cls A2 h2 => X_X11_needLeaves g n ≠ 0 ∧ cls = vEx (X_X11_needLeaves g n) ∧ A2 = A ∧ h2 = w g r) 1 6 := by
  refine v_of hG (by decide +kernel) (Nat.le_of_ble_eq_true rfl) (lv := [(0, .ref (A (0, 0))), (1, .int (n))]) rfl (fun X C hnx => ?_)
  have C : vC G X cX11_needLeaves 2 RX11 none "needLeaves" 1 1 6 := C
  refine v_iload_n (pc := 0) C dX11_needLeaves_0 1 rfl rfl ?_
  refine v_if_lt (pc := 1) (tgt := 15) C dX11_needLeaves_1 (by decide) (fun c_1 => ?_) (fun c_1 => ?_)
  · skip
    exact v_throwW (pc := 15) C hnx (cls := "java/lang/IllegalArgumentException") (text := "there are not so many leaves") (by decide +kernel) wd_359 wd_72 (by decide +kernel) at_IllegalArgumentException (by decide) (by decide) (by decide) dX11_needLeaves_15 dX11_needLeaves_18 dX11_needLeaves_19 dX11_needLeaves_22 dX11_needLeaves_25 ⟨by rw [show (X_X11_needLeaves g n) = 2 from (by rw [X_X11_needLeaves, if_pos c_1])]; decide, by rw [show (X_X11_needLeaves g n) = 2 from (by rw [X_X11_needLeaves, if_pos c_1])]; rfl, rfl, rfl⟩
  · skip
    refine v_iload_n (pc := 4) C dX11_needLeaves_4 1 rfl rfl ?_
    refine v_aload_n (pc := 5) C dX11_needLeaves_5 0 rfl rfl ?_
    refine v_get (pc := 6) C (0, 0) (v := .ref (A (4, 0))) ck_0 rfl 3 (by decide) inX11 wd_223 rfl rfl dX11_needLeaves_6 ?_
    refine v_callV (pc := 9) C (4, 0) ck_4 rfl (c_X5_count hG  ) 0 wd_276 wd_63 wd_273 wd_274 wd_275 (by decide +kernel) (by decide) (by decide) rfl ([.int (n)]) rfl (Nat.le_of_ble_eq_true rfl) (by decide) dX11_needLeaves_9 (fun _ _ _ q => q.elim) (fun v9 A9 h9 hR9 => ?_)
    obtain ⟨rfl, hA9, rfl⟩ := hR9
    obtain rfl := hA9.symm
    refine v_st (k2 := 0) (n2 := 0) (st2 := [.int ((V_X5_count g)), .int (n)]) rfl rfl rfl ?_
    refine v_icmp_le (pc := 12) (tgt := 26) C dX11_needLeaves_12 (by decide) (fun c_2 => ?_) (fun c_2 => ?_)
    · skip
      exact v_vret (pc := 26) C (by decide) (by decide) dX11_needLeaves_26 ⟨(by rw [X_X11_needLeaves, if_neg c_1, if_pos c_2]), rfl, rfl, rfl⟩
    · skip
      exact v_throwW (pc := 15) C hnx (cls := "java/lang/IllegalArgumentException") (text := "there are not so many leaves") (by decide +kernel) wd_359 wd_72 (by decide +kernel) at_IllegalArgumentException (by decide) (by decide) (by decide) dX11_needLeaves_15 dX11_needLeaves_18 dX11_needLeaves_19 dX11_needLeaves_22 dX11_needLeaves_25 ⟨by rw [show (X_X11_needLeaves g n) = 2 from (by rw [X_X11_needLeaves, if_neg c_1, if_neg c_2])]; decide, by rw [show (X_X11_needLeaves g n) = 2 from (by rw [X_X11_needLeaves, if_neg c_1, if_neg c_2])]; rfl, rfl, rfl⟩
def X_X11_needLeafAmong (g : vS) (n : Int32) (x : Int32) : Nat := (if (X_X11_needLeaves g (n)) = 0 then (if x < 0 then 5 else (if x < n then 0 else 5)) else (X_X11_needLeaves g (n)))
set_option maxHeartbeats 4000000 in
set_option maxRecDepth 100000 in
theorem c_X11_needLeafAmong {G : vG} (hG : G.1.stackTraces = false) {A : vN → Nat} {g : vS} {r : vH} (n : Int32) (x : Int32)  : vCt G yX11_needLeafAmong cX11_needLeafAmong 3 none 2 [.ref (A (0, 0)), .int (n), .int (x)] A (w g r) (fun v A2 h2 => X_X11_needLeafAmong g n x = 0 ∧ v = none ∧ A2 = A ∧ h2 = w g r) (fun cls A2 h2 => X_X11_needLeafAmong g n x ≠ 0 ∧ cls = vEx (X_X11_needLeafAmong g n x) ∧ A2 = A ∧ h2 = w g r) 2 12 := by
  refine v_of hG (by decide +kernel) (Nat.le_of_ble_eq_true rfl) (lv := [(0, .ref (A (0, 0))), (1, .int (n)), (2, .int (x))]) rfl (fun X C hnx => ?_)
  have C : vC G X cX11_needLeafAmong 3 RX11 none "needLeafAmong" 2 2 12 := C
  refine v_aload_n (pc := 0) C dX11_needLeafAmong_0 0 rfl rfl ?_
  refine v_iload_n (pc := 1) C dX11_needLeafAmong_1 1 rfl rfl ?_
  refine v_callV (pc := 2) C (0, 0) ck_0 rfl (c_X11_needLeaves hG (n) ) 1 wd_1049 wd_62 wd_1046 wd_1048 wd_21 (by decide +kernel) (by decide) (by decide) rfl ([]) rfl (Nat.le_of_ble_eq_true rfl) (by decide) dX11_needLeafAmong_2 (fun cls9 A9 h9 hE9 => by obtain ⟨q9, rfl, rfl, rfl⟩ := hE9; exact v_out C hnx ⟨(by rw [show (X_X11_needLeafAmong g n x) = (X_X11_needLeaves g (n)) from (by rw [X_X11_needLeafAmong, if_neg q9])]; exact q9), (by rw [show (X_X11_needLeafAmong g n x) = (X_X11_needLeaves g (n)) from (by rw [X_X11_needLeafAmong, if_neg q9])]), rfl, rfl⟩ (by decide) (by decide)) (fun v9 A9 h9 hR9 => ?_)
  obtain ⟨x_1, rfl, hA9, rfl⟩ := hR9
  obtain rfl := hA9.symm
  refine v_st (k2 := 1) (n2 := 6) (st2 := []) rfl rfl rfl ?_
  refine v_iload_n (pc := 5) C dX11_needLeafAmong_5 2 rfl rfl ?_
  refine v_if_lt (pc := 6) (tgt := 14) C dX11_needLeafAmong_6 (by decide) (fun c_2 => ?_) (fun c_2 => ?_)
  · skip
    exact v_throwW (pc := 14) C hnx (cls := "java/lang/IndexOutOfBoundsException") (text := "the leaf is not among them") (by decide +kernel) wd_1003 wd_82 (by decide +kernel) at_IndexOutOfBoundsException (by decide) (by decide) (by decide) dX11_needLeafAmong_14 dX11_needLeafAmong_17 dX11_needLeafAmong_18 dX11_needLeafAmong_21 dX11_needLeafAmong_24 ⟨by rw [show (X_X11_needLeafAmong g n x) = 5 from (by rw [X_X11_needLeafAmong, if_pos x_1, if_pos c_2])]; decide, by rw [show (X_X11_needLeafAmong g n x) = 5 from (by rw [X_X11_needLeafAmong, if_pos x_1, if_pos c_2])]; rfl, rfl, rfl⟩
  · skip
    refine v_iload_n (pc := 9) C dX11_needLeafAmong_9 2 rfl rfl ?_
    refine v_iload_n (pc := 10) C dX11_needLeafAmong_10 1 rfl rfl ?_
    refine v_icmp_lt (pc := 11) (tgt := 25) C dX11_needLeafAmong_11 (by decide) (fun c_3 => ?_) (fun c_3 => ?_)
    · skip
      exact v_vret (pc := 25) C (by decide) (by decide) dX11_needLeafAmong_25 ⟨(by rw [X_X11_needLeafAmong, if_pos x_1, if_neg c_2, if_pos c_3]), rfl, rfl, rfl⟩
    · skip
      exact v_throwW (pc := 14) C hnx (cls := "java/lang/IndexOutOfBoundsException") (text := "the leaf is not among them") (by decide +kernel) wd_1003 wd_82 (by decide +kernel) at_IndexOutOfBoundsException (by decide) (by decide) (by decide) dX11_needLeafAmong_14 dX11_needLeafAmong_17 dX11_needLeafAmong_18 dX11_needLeafAmong_21 dX11_needLeafAmong_24 ⟨by rw [show (X_X11_needLeafAmong g n x) = 5 from (by rw [X_X11_needLeafAmong, if_pos x_1, if_neg c_2, if_neg c_3])]; decide, by rw [show (X_X11_needLeafAmong g n x) = 5 from (by rw [X_X11_needLeafAmong, if_pos x_1, if_neg c_2, if_neg c_3])]; rfl, rfl, rfl⟩
def X_X11_needPrefix (g : vS) (m : Int32) (n : Int32) : Nat := (if (X_X11_needLeaves g (n)) = 0 then (if m < 1 then 2 else (if m ≤ n then 0 else 2)) else (X_X11_needLeaves g (n)))
set_option maxHeartbeats 4000000 in
set_option maxRecDepth 100000 in
theorem c_X11_needPrefix {G : vG} (hG : G.1.stackTraces = false) {A : vN → Nat} {g : vS} {r : vH} (m : Int32) (n : Int32)  : vCt G yX11_needPrefix cX11_needPrefix 3 none 2 [.ref (A (0, 0)), .int (m), .int (n)] A (w g r) (fun v A2 h2 => X_X11_needPrefix g m n = 0 ∧ v = none ∧ A2 = A ∧ h2 = w g r) (fun cls A2 h2 => X_X11_needPrefix g m n ≠ 0 ∧ cls = vEx (X_X11_needPrefix g m n) ∧ A2 = A ∧ h2 = w g r) 2 12 := by
  refine v_of hG (by decide +kernel) (Nat.le_of_ble_eq_true rfl) (lv := [(0, .ref (A (0, 0))), (1, .int (m)), (2, .int (n))]) rfl (fun X C hnx => ?_)
  have C : vC G X cX11_needPrefix 3 RX11 none "needPrefix" 2 2 12 := C
  refine v_aload_n (pc := 0) C dX11_needPrefix_0 0 rfl rfl ?_
  refine v_iload_n (pc := 1) C dX11_needPrefix_1 2 rfl rfl ?_
  refine v_callV (pc := 2) C (0, 0) ck_0 rfl (c_X11_needLeaves hG (n) ) 1 wd_1049 wd_62 wd_1046 wd_1048 wd_21 (by decide +kernel) (by decide) (by decide) rfl ([]) rfl (Nat.le_of_ble_eq_true rfl) (by decide) dX11_needPrefix_2 (fun cls9 A9 h9 hE9 => by obtain ⟨q9, rfl, rfl, rfl⟩ := hE9; exact v_out C hnx ⟨(by rw [show (X_X11_needPrefix g m n) = (X_X11_needLeaves g (n)) from (by rw [X_X11_needPrefix, if_neg q9])]; exact q9), (by rw [show (X_X11_needPrefix g m n) = (X_X11_needLeaves g (n)) from (by rw [X_X11_needPrefix, if_neg q9])]), rfl, rfl⟩ (by decide) (by decide)) (fun v9 A9 h9 hR9 => ?_)
  obtain ⟨x_1, rfl, hA9, rfl⟩ := hR9
  obtain rfl := hA9.symm
  refine v_st (k2 := 1) (n2 := 6) (st2 := []) rfl rfl rfl ?_
  refine v_iload_n (pc := 5) C dX11_needPrefix_5 1 rfl rfl ?_
  refine v_iconst (v := 1) (pc := 6) C dX11_needPrefix_6 rfl ?_
  refine v_icmp_lt (pc := 7) (tgt := 15) C dX11_needPrefix_7 (by decide) (fun c_2 => ?_) (fun c_2 => ?_)
  · skip
    exact v_throwW (pc := 15) C hnx (cls := "java/lang/IllegalArgumentException") (text := "the fewer ones are none or more") (by decide +kernel) wd_359 wd_72 (by decide +kernel) at_IllegalArgumentException (by decide) (by decide) (by decide) dX11_needPrefix_15 dX11_needPrefix_18 dX11_needPrefix_19 dX11_needPrefix_22 dX11_needPrefix_25 ⟨by rw [show (X_X11_needPrefix g m n) = 2 from (by rw [X_X11_needPrefix, if_pos x_1, if_pos c_2])]; decide, by rw [show (X_X11_needPrefix g m n) = 2 from (by rw [X_X11_needPrefix, if_pos x_1, if_pos c_2])]; rfl, rfl, rfl⟩
  · skip
    refine v_iload_n (pc := 10) C dX11_needPrefix_10 1 rfl rfl ?_
    refine v_iload_n (pc := 11) C dX11_needPrefix_11 2 rfl rfl ?_
    refine v_icmp_le (pc := 12) (tgt := 26) C dX11_needPrefix_12 (by decide) (fun c_3 => ?_) (fun c_3 => ?_)
    · skip
      exact v_vret (pc := 26) C (by decide) (by decide) dX11_needPrefix_26 ⟨(by rw [X_X11_needPrefix, if_pos x_1, if_neg c_2, if_pos c_3]), rfl, rfl, rfl⟩
    · skip
      exact v_throwW (pc := 15) C hnx (cls := "java/lang/IllegalArgumentException") (text := "the fewer ones are none or more") (by decide +kernel) wd_359 wd_72 (by decide +kernel) at_IllegalArgumentException (by decide) (by decide) (by decide) dX11_needPrefix_15 dX11_needPrefix_18 dX11_needPrefix_19 dX11_needPrefix_22 dX11_needPrefix_25 ⟨by rw [show (X_X11_needPrefix g m n) = 2 from (by rw [X_X11_needPrefix, if_pos x_1, if_neg c_2, if_neg c_3])]; decide, by rw [show (X_X11_needPrefix g m n) = 2 from (by rw [X_X11_needPrefix, if_pos x_1, if_neg c_2, if_neg c_3])]; rfl, rfl, rfl⟩
def X_X11_needRoomForComingAndGoing (g : vS)  : Nat := (if (V_X5_isFull g) = 0 then (if (V_X2_isFull g) = 0 then 0 else 3) else 3)
set_option maxHeartbeats 4000000 in
set_option maxRecDepth 100000 in
theorem c_X11_needRoomForComingAndGoing {G : vG} (hG : G.1.stackTraces = false) {A : vN → Nat} {g : vS} {r : vH}   : vCt G yX11_needRoomForComingAndGoing cX11_needRoomForComingAndGoing 1 none 1 [.ref (A (0, 0))] A (w g r) (fun v A2 h2 => X_X11_needRoomForComingAndGoing g = 0 ∧ v = none ∧ A2 = A ∧ h2 = w g r) (fun cls A2 h2 => X_X11_needRoomForComingAndGoing g ≠ 0 ∧ cls = vEx (X_X11_needRoomForComingAndGoing g) ∧ A2 = A ∧ h2 = w g r) 1 6 := by
  refine v_of hG (by decide +kernel) (Nat.le_of_ble_eq_true rfl) (lv := [(0, .ref (A (0, 0)))]) rfl (fun X C hnx => ?_)
  have C : vC G X cX11_needRoomForComingAndGoing 1 RX11 none "needRoomForComingAndGoing" 1 1 6 := C
  refine v_aload_n (pc := 0) C dX11_needRoomForComingAndGoing_0 0 rfl rfl ?_
  refine v_get (pc := 1) C (0, 0) (v := .ref (A (4, 0))) ck_0 rfl 3 (by decide) inX11 wd_223 rfl rfl dX11_needRoomForComingAndGoing_1 ?_
  refine v_callV (pc := 4) C (4, 0) ck_4 rfl (c_X5_isFull hG  ) 0 wd_602 wd_63 wd_599 wd_600 wd_601 (by decide +kernel) (by decide) (by decide) rfl ([]) rfl (Nat.le_of_ble_eq_true rfl) (by decide) dX11_needRoomForComingAndGoing_4 (fun _ _ _ q => q.elim) (fun v9 A9 h9 hR9 => ?_)
  obtain ⟨rfl, hA9, rfl⟩ := hR9
  obtain rfl := hA9.symm
  refine v_st (k2 := 0) (n2 := 0) (st2 := [.int ((V_X5_isFull g))]) rfl rfl rfl ?_
  refine v_if_ne (pc := 7) (tgt := 20) C dX11_needRoomForComingAndGoing_7 (by decide) (fun c_1 => ?_) (fun c_1 => ?_)
  · skip
    exact v_throwW (pc := 20) C hnx (cls := "java/lang/IllegalStateException") (text := "there are 300 leaves") (by decide +kernel) wd_431 wd_73 (by decide +kernel) at_IllegalStateException (by decide) (by decide) (by decide) dX11_needRoomForComingAndGoing_20 dX11_needRoomForComingAndGoing_23 dX11_needRoomForComingAndGoing_24 dX11_needRoomForComingAndGoing_27 dX11_needRoomForComingAndGoing_30 ⟨by rw [show (X_X11_needRoomForComingAndGoing g) = 3 from (by rw [X_X11_needRoomForComingAndGoing, if_neg c_1])]; decide, by rw [show (X_X11_needRoomForComingAndGoing g) = 3 from (by rw [X_X11_needRoomForComingAndGoing, if_neg c_1])]; rfl, rfl, rfl⟩
  · skip
    refine v_aload_n (pc := 10) C dX11_needRoomForComingAndGoing_10 0 rfl rfl ?_
    refine v_get (pc := 11) C (0, 0) (v := .ref (A (7, 0))) ck_0 rfl 4 (by decide) inX11 wd_224 rfl rfl dX11_needRoomForComingAndGoing_11 ?_
    refine v_callV (pc := 14) C (7, 0) ck_7 rfl (c_X2_isFull hG  ) 0 wd_606 wd_64 wd_603 wd_604 wd_605 (by decide +kernel) (by decide) (by decide) rfl ([]) rfl (Nat.le_of_ble_eq_true rfl) (by decide) dX11_needRoomForComingAndGoing_14 (fun _ _ _ q => q.elim) (fun v9 A9 h9 hR9 => ?_)
    obtain ⟨rfl, hA9, rfl⟩ := hR9
    obtain rfl := hA9.symm
    refine v_st (k2 := 0) (n2 := 0) (st2 := [.int ((V_X2_isFull g))]) rfl rfl rfl ?_
    refine v_if_eq (pc := 17) (tgt := 31) C dX11_needRoomForComingAndGoing_17 (by decide) (fun c_2 => ?_) (fun c_2 => ?_)
    · skip
      exact v_vret (pc := 31) C (by decide) (by decide) dX11_needRoomForComingAndGoing_31 ⟨(by rw [X_X11_needRoomForComingAndGoing, if_pos c_1, if_pos c_2]), rfl, rfl, rfl⟩
    · skip
      exact v_throwW (pc := 20) C hnx (cls := "java/lang/IllegalStateException") (text := "there are 300 leaves") (by decide +kernel) wd_431 wd_73 (by decide +kernel) at_IllegalStateException (by decide) (by decide) (by decide) dX11_needRoomForComingAndGoing_20 dX11_needRoomForComingAndGoing_23 dX11_needRoomForComingAndGoing_24 dX11_needRoomForComingAndGoing_27 dX11_needRoomForComingAndGoing_30 ⟨by rw [show (X_X11_needRoomForComingAndGoing g) = 3 from (by rw [X_X11_needRoomForComingAndGoing, if_pos c_1, if_neg c_2])]; decide, by rw [show (X_X11_needRoomForComingAndGoing g) = 3 from (by rw [X_X11_needRoomForComingAndGoing, if_pos c_1, if_neg c_2])]; rfl, rfl, rfl⟩
def X_X11_needMember (g : vS) (gi : Nat) (u : Int32) : Nat := (if (V_X3_hasMember g (gi) (u)) = 0 then 4 else 0)
set_option maxHeartbeats 4000000 in
set_option maxRecDepth 100000 in
theorem c_X11_needMember {G : vG} (hG : G.1.stackTraces = false) {A : vN → Nat} {g : vS} {r : vH} (gi : Nat) (u : Int32) (hg : g 104 gi 0 ≠ 0) : vCt G yX11_needMember cX11_needMember 3 none 1 [.ref (A (0, 0)), .ref (A (27, gi)), .int (u)] A (w g r) (fun v A2 h2 => X_X11_needMember g gi u = 0 ∧ v = none ∧ A2 = A ∧ h2 = w g r) (fun cls A2 h2 => X_X11_needMember g gi u ≠ 0 ∧ cls = vEx (X_X11_needMember g gi u) ∧ A2 = A ∧ h2 = w g r) 1 6 := by
  refine v_of hG (by decide +kernel) (Nat.le_of_ble_eq_true rfl) (lv := [(0, .ref (A (0, 0))), (1, .ref (A (27, gi))), (2, .int (u))]) rfl (fun X C hnx => ?_)
  have C : vC G X cX11_needMember 3 RX11 none "needMember" 1 1 6 := C
  refine v_aload_n (pc := 0) C dX11_needMember_0 1 rfl rfl ?_
  refine v_iload_n (pc := 1) C dX11_needMember_1 2 rfl rfl ?_
  refine v_callV (pc := 2) C (27, gi) (ck_27 (g := g) hg) rfl (c_X3_hasMember hG (gi) (u) hg) 1 wd_349 wd_77 wd_593 wd_347 wd_348 (by decide +kernel) (by decide) (by decide) rfl ([]) rfl (Nat.le_of_ble_eq_true rfl) (by decide) dX11_needMember_2 (fun _ _ _ q => q.elim) (fun v9 A9 h9 hR9 => ?_)
  obtain ⟨rfl, hA9, rfl⟩ := hR9
  obtain rfl := hA9.symm
  refine v_st (k2 := 0) (n2 := 0) (st2 := [.int ((V_X3_hasMember g (gi) (u)))]) rfl rfl rfl ?_
  refine v_if_ne (pc := 5) (tgt := 18) C dX11_needMember_5 (by decide) (fun c_1 => ?_) (fun c_1 => ?_)
  · skip
    exact v_vret (pc := 18) C (by decide) (by decide) dX11_needMember_18 ⟨(by rw [X_X11_needMember, if_neg c_1]), rfl, rfl, rfl⟩
  · skip
    exact v_throw (pc := 8) C hnx (cls := "java/lang/UnsupportedOperationException") (text := "the user is no member") (by decide +kernel) wd_684 wd_79 (by decide +kernel) at_UnsupportedOperationException (by decide) (by decide) (by decide) dX11_needMember_8 dX11_needMember_11 dX11_needMember_12 dX11_needMember_14 dX11_needMember_17 ⟨by rw [show (X_X11_needMember g gi u) = 4 from (by rw [X_X11_needMember, if_pos c_1])]; decide, by rw [show (X_X11_needMember g gi u) = 4 from (by rw [X_X11_needMember, if_pos c_1])]; rfl, rfl, rfl⟩
def X_X11_isMember (g : vS) (a : Int32) (u : Int32) : Nat := (if (X_X11_needGroup g (a)) = 0 then (if (X_X11_needUser g (u)) = 0 then 0 else (X_X11_needUser g (u))) else (X_X11_needGroup g (a)))
def V_X11_isMember (g : vS) (a : Int32) (u : Int32) : Int32 := (if (X_X11_needGroup g (a)) = 0 then (if (X_X11_needUser g (u)) = 0 then (V_X3_hasMember g ((a).toNatClampNeg) (u)) else 0) else 0)
theorem B_X11_isMember {g : vS} {a : Int32} {u : Int32} : V_X11_isMember g a u = 0 ∨ V_X11_isMember g a u = 1 := by
  unfold V_X11_isMember
  (repeat' split) <;> first | exact Or.inl rfl | exact Or.inr rfl | exact B_X3_hasMember
set_option maxHeartbeats 4000000 in
set_option maxRecDepth 100000 in
theorem c_X11_isMember {G : vG} (hG : G.1.stackTraces = false) {A : vN → Nat} {g : vS} {r : vH} (a : Int32) (u : Int32)  : vCt G yX11_isMember cX11_isMember 4 (some .boolean) 1 [.ref (A (0, 0)), .int (a), .int (u)] A (w g r) (fun v A2 h2 => X_X11_isMember g a u = 0 ∧ v = some (.int (V_X11_isMember g a u)) ∧ A2 = A ∧ h2 = w g r) (fun cls A2 h2 => X_X11_isMember g a u ≠ 0 ∧ cls = vEx (X_X11_isMember g a u) ∧ A2 = A ∧ h2 = w g r) 2 12 := by
  refine v_of hG (by decide +kernel) (Nat.le_of_ble_eq_true rfl) (lv := [(0, .ref (A (0, 0))), (1, .int (a)), (2, .int (u))]) rfl (fun X C hnx => ?_)
  have C : vC G X cX11_isMember 4 RX11 (some .boolean) "isMember" 1 2 12 := C
  refine v_aload_n (pc := 0) C dX11_isMember_0 0 rfl rfl ?_
  refine v_iload_n (pc := 1) C dX11_isMember_1 1 rfl rfl ?_
  refine v_callV (pc := 2) C (0, 0) ck_0 rfl (c_X11_needGroup hG (a) ) 1 wd_591 wd_62 wd_588 wd_590 wd_7 (by decide +kernel) (by decide) (by decide) rfl ([]) rfl (Nat.le_of_ble_eq_true rfl) (by decide) dX11_isMember_2 (fun cls9 A9 h9 hE9 => by obtain ⟨q9, rfl, rfl, rfl⟩ := hE9; exact v_out C hnx ⟨(by rw [show (X_X11_isMember g a u) = (X_X11_needGroup g (a)) from (by rw [X_X11_isMember, if_neg q9])]; exact q9), (by rw [show (X_X11_isMember g a u) = (X_X11_needGroup g (a)) from (by rw [X_X11_isMember, if_neg q9])]), rfl, rfl⟩ (by decide) (by decide)) (fun v9 A9 h9 hR9 => ?_)
  obtain ⟨x_1, rfl, hA9, rfl⟩ := hR9
  obtain rfl := hA9.symm
  refine v_st (k2 := 1) (n2 := 6) (st2 := [.ref (A (27, (a).toNatClampNeg))]) rfl rfl rfl ?_
  refine v_astore_n (lv2 := [(3, .ref (A (27, (a).toNatClampNeg))), (0, .ref (A (0, 0))), (1, .int (a)), (2, .int (u))]) (pc := 5) C dX11_isMember_5 rfl (by decide) rfl ?_
  refine v_aload_n (pc := 6) C dX11_isMember_6 1 rfl rfl ?_
  refine v_iload_n (pc := 7) C dX11_isMember_7 3 rfl rfl ?_
  refine v_callV (pc := 8) C (0, 0) ck_0 rfl (c_X11_needUser hG (u) ) 1 wd_513 wd_62 wd_510 wd_512 wd_5 (by decide +kernel) (by decide) (by decide) rfl ([]) rfl (Nat.le_of_ble_eq_true rfl) (by decide) dX11_isMember_8 (fun cls9 A9 h9 hE9 => by obtain ⟨q9, rfl, rfl, rfl⟩ := hE9; exact v_out C hnx ⟨(by rw [show (X_X11_isMember g a u) = (X_X11_needUser g (u)) from (by rw [X_X11_isMember, if_pos x_1, if_neg q9])]; exact q9), (by rw [show (X_X11_isMember g a u) = (X_X11_needUser g (u)) from (by rw [X_X11_isMember, if_pos x_1, if_neg q9])]), rfl, rfl⟩ (by decide) (by decide)) (fun v9 A9 h9 hR9 => ?_)
  obtain ⟨x_2, rfl, hA9, rfl⟩ := hR9
  obtain rfl := hA9.symm
  refine v_st (k2 := 2) (n2 := 12) (st2 := [.ref (A (22, (u).toNatClampNeg))]) rfl rfl rfl ?_
  refine v_pop (pc := 11) C dX11_isMember_11 rfl ?_
  refine v_aload_n (pc := 12) C dX11_isMember_12 0 rfl rfl ?_
  refine v_iload_n (pc := 13) C dX11_isMember_13 3 rfl rfl ?_
  refine v_callV (pc := 14) C (27, (a).toNatClampNeg) (ck_27 (g := g) (ok_needGroup x_1)) rfl (c_X3_hasMember hG ((a).toNatClampNeg) (u) (ok_needGroup x_1)) 1 wd_349 wd_77 wd_593 wd_347 wd_348 (by decide +kernel) (by decide) (by decide) rfl ([]) rfl (Nat.le_of_ble_eq_true rfl) (by decide) dX11_isMember_14 (fun _ _ _ q => q.elim) (fun v9 A9 h9 hR9 => ?_)
  obtain ⟨rfl, hA9, rfl⟩ := hR9
  obtain rfl := hA9.symm
  refine v_st (k2 := 2) (n2 := 12) (st2 := [.int ((V_X3_hasMember g ((a).toNatClampNeg) (u)))]) rfl rfl rfl ?_
  exact v_zret (pc := 17) C (nar_b B_X3_hasMember) (by decide) (by decide) dX11_isMember_17 ⟨(by rw [X_X11_isMember, if_pos x_1, if_pos x_2]), (congrArg (fun q => some (Value.int q)) (by show _ = _; rw [V_X11_isMember, if_pos x_1, if_pos x_2])), rfl, rfl⟩
def X_X11_epoch (g : vS) (a : Int32) : Nat := (if (X_X11_needGroup g (a)) = 0 then 0 else (X_X11_needGroup g (a)))
def V_X11_epoch (g : vS) (a : Int32) : Int32 := (if (X_X11_needGroup g (a)) = 0 then (g 42 (a).toNatClampNeg 0) else 0)
set_option maxHeartbeats 4000000 in
set_option maxRecDepth 100000 in
theorem c_X11_epoch {G : vG} (hG : G.1.stackTraces = false) {A : vN → Nat} {g : vS} {r : vH} (a : Int32)  : vCt G yX11_epoch cX11_epoch 2 (some .int) 1 [.ref (A (0, 0)), .int (a)] A (w g r) (fun v A2 h2 => X_X11_epoch g a = 0 ∧ v = some (.int (V_X11_epoch g a)) ∧ A2 = A ∧ h2 = w g r) (fun cls A2 h2 => X_X11_epoch g a ≠ 0 ∧ cls = vEx (X_X11_epoch g a) ∧ A2 = A ∧ h2 = w g r) 1 6 := by
  refine v_of hG (by decide +kernel) (Nat.le_of_ble_eq_true rfl) (lv := [(0, .ref (A (0, 0))), (1, .int (a))]) rfl (fun X C hnx => ?_)
  have C : vC G X cX11_epoch 2 RX11 (some .int) "epoch" 1 1 6 := C
  refine v_aload_n (pc := 0) C dX11_epoch_0 0 rfl rfl ?_
  refine v_iload_n (pc := 1) C dX11_epoch_1 1 rfl rfl ?_
  refine v_callV (pc := 2) C (0, 0) ck_0 rfl (c_X11_needGroup hG (a) ) 1 wd_591 wd_62 wd_588 wd_590 wd_7 (by decide +kernel) (by decide) (by decide) rfl ([]) rfl (Nat.le_of_ble_eq_true rfl) (by decide) dX11_epoch_2 (fun cls9 A9 h9 hE9 => by obtain ⟨q9, rfl, rfl, rfl⟩ := hE9; exact v_out C hnx ⟨(by rw [show (X_X11_epoch g a) = (X_X11_needGroup g (a)) from (by rw [X_X11_epoch, if_neg q9])]; exact q9), (by rw [show (X_X11_epoch g a) = (X_X11_needGroup g (a)) from (by rw [X_X11_epoch, if_neg q9])]), rfl, rfl⟩ (by decide) (by decide)) (fun v9 A9 h9 hR9 => ?_)
  obtain ⟨x_1, rfl, hA9, rfl⟩ := hR9
  obtain rfl := hA9.symm
  refine v_st (k2 := 1) (n2 := 6) (st2 := [.ref (A (27, (a).toNatClampNeg))]) rfl rfl rfl ?_
  refine v_get (pc := 5) C (27, (a).toNatClampNeg) (v := .int ((g 42 (a).toNatClampNeg 0))) (ck_27 (g := g) (ok_needGroup x_1)) rfl 4 (by decide) inX3 wd_547 rfl rfl dX11_epoch_5 ?_
  exact v_iret (pc := 8) C (by decide) (by decide) dX11_epoch_8 ⟨(by rw [X_X11_epoch, if_pos x_1]), (congrArg (fun q => some (Value.int q)) (by show _ = _; rw [V_X11_epoch, if_pos x_1])), rfl, rfl⟩
def X_X11_known (g : vS) (a : Int32) (u : Int32) : Nat := (if (X_X11_needGroup g (a)) = 0 then (if (X_X11_needUser g (u)) = 0 then 0 else (X_X11_needUser g (u))) else (X_X11_needGroup g (a)))
def V_X11_known (g : vS) (a : Int32) (u : Int32) : Int32 := (if (X_X11_needGroup g (a)) = 0 then (if (X_X11_needUser g (u)) = 0 then (V_X3_latestKnownTo g ((a).toNatClampNeg) (u)) else 0) else 0)
set_option maxHeartbeats 4000000 in
set_option maxRecDepth 100000 in
theorem c_X11_known {G : vG} (hG : G.1.stackTraces = false) {A : vN → Nat} {g : vS} {r : vH} (a : Int32) (u : Int32)  : vCt G yX11_known cX11_known 4 (some .int) 2 [.ref (A (0, 0)), .int (a), .int (u)] A (w g r) (fun v A2 h2 => X_X11_known g a u = 0 ∧ v = some (.int (V_X11_known g a u)) ∧ A2 = A ∧ h2 = w g r) (fun cls A2 h2 => X_X11_known g a u ≠ 0 ∧ cls = vEx (X_X11_known g a u) ∧ A2 = A ∧ h2 = w g r) 2 12 := by
  refine v_of hG (by decide +kernel) (Nat.le_of_ble_eq_true rfl) (lv := [(0, .ref (A (0, 0))), (1, .int (a)), (2, .int (u))]) rfl (fun X C hnx => ?_)
  have C : vC G X cX11_known 4 RX11 (some .int) "known" 2 2 12 := C
  refine v_aload_n (pc := 0) C dX11_known_0 0 rfl rfl ?_
  refine v_iload_n (pc := 1) C dX11_known_1 1 rfl rfl ?_
  refine v_callV (pc := 2) C (0, 0) ck_0 rfl (c_X11_needGroup hG (a) ) 1 wd_591 wd_62 wd_588 wd_590 wd_7 (by decide +kernel) (by decide) (by decide) rfl ([]) rfl (Nat.le_of_ble_eq_true rfl) (by decide) dX11_known_2 (fun cls9 A9 h9 hE9 => by obtain ⟨q9, rfl, rfl, rfl⟩ := hE9; exact v_out C hnx ⟨(by rw [show (X_X11_known g a u) = (X_X11_needGroup g (a)) from (by rw [X_X11_known, if_neg q9])]; exact q9), (by rw [show (X_X11_known g a u) = (X_X11_needGroup g (a)) from (by rw [X_X11_known, if_neg q9])]), rfl, rfl⟩ (by decide) (by decide)) (fun v9 A9 h9 hR9 => ?_)
  obtain ⟨x_1, rfl, hA9, rfl⟩ := hR9
  obtain rfl := hA9.symm
  refine v_st (k2 := 1) (n2 := 6) (st2 := [.ref (A (27, (a).toNatClampNeg))]) rfl rfl rfl ?_
  refine v_astore_n (lv2 := [(3, .ref (A (27, (a).toNatClampNeg))), (0, .ref (A (0, 0))), (1, .int (a)), (2, .int (u))]) (pc := 5) C dX11_known_5 rfl (by decide) rfl ?_
  refine v_aload_n (pc := 6) C dX11_known_6 1 rfl rfl ?_
  refine v_iload_n (pc := 7) C dX11_known_7 3 rfl rfl ?_
  refine v_callV (pc := 8) C (0, 0) ck_0 rfl (c_X11_needUser hG (u) ) 1 wd_513 wd_62 wd_510 wd_512 wd_5 (by decide +kernel) (by decide) (by decide) rfl ([]) rfl (Nat.le_of_ble_eq_true rfl) (by decide) dX11_known_8 (fun cls9 A9 h9 hE9 => by obtain ⟨q9, rfl, rfl, rfl⟩ := hE9; exact v_out C hnx ⟨(by rw [show (X_X11_known g a u) = (X_X11_needUser g (u)) from (by rw [X_X11_known, if_pos x_1, if_neg q9])]; exact q9), (by rw [show (X_X11_known g a u) = (X_X11_needUser g (u)) from (by rw [X_X11_known, if_pos x_1, if_neg q9])]), rfl, rfl⟩ (by decide) (by decide)) (fun v9 A9 h9 hR9 => ?_)
  obtain ⟨x_2, rfl, hA9, rfl⟩ := hR9
  obtain rfl := hA9.symm
  refine v_st (k2 := 2) (n2 := 12) (st2 := [.ref (A (22, (u).toNatClampNeg))]) rfl rfl rfl ?_
  refine v_pop (pc := 11) C dX11_known_11 rfl ?_
  refine v_aload_n (pc := 12) C dX11_known_12 0 rfl rfl ?_
  refine v_iload_n (pc := 13) C dX11_known_13 3 rfl rfl ?_
  refine v_callV (pc := 14) C (27, (a).toNatClampNeg) (ck_27 (g := g) (ok_needGroup x_1)) rfl (c_X3_latestKnownTo hG ((a).toNatClampNeg) (u) (ok_needGroup x_1)) 1 wd_345 wd_77 wd_342 wd_343 wd_344 (by decide +kernel) (by decide) (by decide) rfl ([]) rfl (Nat.le_of_ble_eq_true rfl) (by decide) dX11_known_14 (fun _ _ _ q => q.elim) (fun v9 A9 h9 hR9 => ?_)
  obtain ⟨rfl, hA9, rfl⟩ := hR9
  obtain rfl := hA9.symm
  refine v_st (k2 := 2) (n2 := 12) (st2 := [.int ((V_X3_latestKnownTo g ((a).toNatClampNeg) (u)))]) rfl rfl rfl ?_
  exact v_iret (pc := 17) C (by decide) (by decide) dX11_known_17 ⟨(by rw [X_X11_known, if_pos x_1, if_pos x_2]), (congrArg (fun q => some (Value.int q)) (by show _ = _; rw [V_X11_known, if_pos x_1, if_pos x_2])), rfl, rfl⟩
def X_X11_mark (g : vS) (a : Int32) : Nat := (if (X_X11_needFile g (a)) = 0 then 0 else (X_X11_needFile g (a)))
def V_X11_mark (g : vS) (a : Int32) : Int32 := (if (X_X11_needFile g (a)) = 0 then (g 52 (a).toNatClampNeg 0) else 0)
set_option maxHeartbeats 4000000 in
set_option maxRecDepth 100000 in
theorem c_X11_mark {G : vG} (hG : G.1.stackTraces = false) {A : vN → Nat} {g : vS} {r : vH} (a : Int32)  : vCt G yX11_mark cX11_mark 2 (some .int) 1 [.ref (A (0, 0)), .int (a)] A (w g r) (fun v A2 h2 => X_X11_mark g a = 0 ∧ v = some (.int (V_X11_mark g a)) ∧ A2 = A ∧ h2 = w g r) (fun cls A2 h2 => X_X11_mark g a ≠ 0 ∧ cls = vEx (X_X11_mark g a) ∧ A2 = A ∧ h2 = w g r) 1 6 := by
  refine v_of hG (by decide +kernel) (Nat.le_of_ble_eq_true rfl) (lv := [(0, .ref (A (0, 0))), (1, .int (a))]) rfl (fun X C hnx => ?_)
  have C : vC G X cX11_mark 2 RX11 (some .int) "mark" 1 1 6 := C
  refine v_aload_n (pc := 0) C dX11_mark_0 0 rfl rfl ?_
  refine v_iload_n (pc := 1) C dX11_mark_1 1 rfl rfl ?_
  refine v_callV (pc := 2) C (0, 0) ck_0 rfl (c_X11_needFile hG (a) ) 1 wd_748 wd_62 wd_745 wd_747 wd_13 (by decide +kernel) (by decide) (by decide) rfl ([]) rfl (Nat.le_of_ble_eq_true rfl) (by decide) dX11_mark_2 (fun cls9 A9 h9 hE9 => by obtain ⟨q9, rfl, rfl, rfl⟩ := hE9; exact v_out C hnx ⟨(by rw [show (X_X11_mark g a) = (X_X11_needFile g (a)) from (by rw [X_X11_mark, if_neg q9])]; exact q9), (by rw [show (X_X11_mark g a) = (X_X11_needFile g (a)) from (by rw [X_X11_mark, if_neg q9])]), rfl, rfl⟩ (by decide) (by decide)) (fun v9 A9 h9 hR9 => ?_)
  obtain ⟨x_1, rfl, hA9, rfl⟩ := hR9
  obtain rfl := hA9.symm
  refine v_st (k2 := 1) (n2 := 6) (st2 := [.ref (A (30, (a).toNatClampNeg))]) rfl rfl rfl ?_
  refine v_get (pc := 5) C (30, (a).toNatClampNeg) (v := .int ((g 52 (a).toNatClampNeg 0))) (ck_30 (g := g) (ok_needFile x_1)) rfl 4 (by decide) inX4 wd_714 rfl rfl dX11_mark_5 ?_
  exact v_iret (pc := 8) C (by decide) (by decide) dX11_mark_8 ⟨(by rw [X_X11_mark, if_pos x_1]), (congrArg (fun q => some (Value.int q)) (by show _ = _; rw [V_X11_mark, if_pos x_1])), rfl, rfl⟩
def X_X11_status (g : vS) (a : Int32) : Nat := (if (X_X11_needFile g (a)) = 0 then 0 else (X_X11_needFile g (a)))
def V_X11_status (g : vS) (a : Int32) : Int32 := (if (X_X11_needFile g (a)) = 0 then (if (g 53 (a).toNatClampNeg 0) = 0 then (if (V_X4_isSpoiled g ((a).toNatClampNeg)) = 0 then 111 else 115) else 120) else 0)
set_option maxHeartbeats 4000000 in
set_option maxRecDepth 100000 in
theorem c_X11_status {G : vG} (hG : G.1.stackTraces = false) {A : vN → Nat} {g : vS} {r : vH} (a : Int32)  : vCt G yX11_status cX11_status 3 (some .char) 4 [.ref (A (0, 0)), .int (a)] A (w g r) (fun v A2 h2 => X_X11_status g a = 0 ∧ v = some (.int (V_X11_status g a)) ∧ A2 = A ∧ h2 = w g r) (fun cls A2 h2 => X_X11_status g a ≠ 0 ∧ cls = vEx (X_X11_status g a) ∧ A2 = A ∧ h2 = w g r) 1 6 := by
  refine v_of hG (by decide +kernel) (Nat.le_of_ble_eq_true rfl) (lv := [(0, .ref (A (0, 0))), (1, .int (a))]) rfl (fun X C hnx => ?_)
  have C : vC G X cX11_status 3 RX11 (some .char) "status" 4 1 6 := C
  refine v_aload_n (pc := 0) C dX11_status_0 0 rfl rfl ?_
  refine v_iload_n (pc := 1) C dX11_status_1 1 rfl rfl ?_
  refine v_callV (pc := 2) C (0, 0) ck_0 rfl (c_X11_needFile hG (a) ) 1 wd_748 wd_62 wd_745 wd_747 wd_13 (by decide +kernel) (by decide) (by decide) rfl ([]) rfl (Nat.le_of_ble_eq_true rfl) (by decide) dX11_status_2 (fun cls9 A9 h9 hE9 => by obtain ⟨q9, rfl, rfl, rfl⟩ := hE9; exact v_out C hnx ⟨(by rw [show (X_X11_status g a) = (X_X11_needFile g (a)) from (by rw [X_X11_status, if_neg q9])]; exact q9), (by rw [show (X_X11_status g a) = (X_X11_needFile g (a)) from (by rw [X_X11_status, if_neg q9])]), rfl, rfl⟩ (by decide) (by decide)) (fun v9 A9 h9 hR9 => ?_)
  obtain ⟨x_1, rfl, hA9, rfl⟩ := hR9
  obtain rfl := hA9.symm
  refine v_st (k2 := 1) (n2 := 6) (st2 := [.ref (A (30, (a).toNatClampNeg))]) rfl rfl rfl ?_
  refine v_astore_n (lv2 := [(2, .ref (A (30, (a).toNatClampNeg))), (0, .ref (A (0, 0))), (1, .int (a))]) (pc := 5) C dX11_status_5 rfl (by decide) rfl ?_
  refine v_aload_n (pc := 6) C dX11_status_6 0 rfl rfl ?_
  refine v_get (pc := 7) C (30, (a).toNatClampNeg) (v := .int ((g 53 (a).toNatClampNeg 0))) (ck_30 (g := g) (ok_needFile x_1)) rfl 5 (by decide) inX4 wd_715 rfl rfl dX11_status_7 ?_
  refine v_if_eq (pc := 10) (tgt := 16) C dX11_status_10 (by decide) (fun c_2 => ?_) (fun c_2 => ?_)
  · skip
    refine v_aload_n (pc := 16) C dX11_status_16 0 rfl rfl ?_
    refine v_callV (pc := 17) C (30, (a).toNatClampNeg) (ck_30 (g := g) (ok_needFile x_1)) rfl (c_X4_isSpoiled hG ((a).toNatClampNeg) (ok_needFile x_1)) 0 wd_305 wd_80 wd_302 wd_303 wd_304 (by decide +kernel) (by decide) (by decide) rfl ([]) rfl (Nat.le_of_ble_eq_true rfl) (by decide) dX11_status_17 (fun _ _ _ q => q.elim) (fun v9 A9 h9 hR9 => ?_)
    obtain ⟨rfl, hA9, rfl⟩ := hR9
    obtain rfl := hA9.symm
    refine v_st (k2 := 1) (n2 := 6) (st2 := [.int ((V_X4_isSpoiled g ((a).toNatClampNeg)))]) rfl rfl rfl ?_
    refine v_if_eq (pc := 20) (tgt := 28) C dX11_status_20 (by decide) (fun c_3 => ?_) (fun c_3 => ?_)
    · skip
      refine v_bipush (v := 111) (pc := 28) C dX11_status_28 (by decide) ?_
      exact v_zret (pc := 30) C rfl (by decide) (by decide) dX11_status_30 ⟨(by rw [X_X11_status, if_pos x_1]), (congrArg (fun q => some (Value.int q)) (by show _ = _; rw [V_X11_status, if_pos x_1, if_pos c_2, if_pos c_3])), rfl, rfl⟩
    · skip
      refine v_bipush (v := 115) (pc := 23) C dX11_status_23 (by decide) ?_
      refine v_goto (tgt := 30) (pc := 25) C dX11_status_25 (by decide) ?_
      exact v_zret (pc := 30) C rfl (by decide) (by decide) dX11_status_30 ⟨(by rw [X_X11_status, if_pos x_1]), (congrArg (fun q => some (Value.int q)) (by show _ = _; rw [V_X11_status, if_pos x_1, if_pos c_2, if_neg c_3])), rfl, rfl⟩
  · skip
    refine v_bipush (v := 120) (pc := 13) C dX11_status_13 (by decide) ?_
    exact v_zret (pc := 15) C rfl (by decide) (by decide) dX11_status_15 ⟨(by rw [X_X11_status, if_pos x_1]), (congrArg (fun q => some (Value.int q)) (by show _ = _; rw [V_X11_status, if_pos x_1, if_neg c_2])), rfl, rfl⟩
def X_X11_head (g : vS) (a : Int32) : Nat := (if (X_X11_needUser g (a)) = 0 then 0 else (X_X11_needUser g (a)))
def V_X11_head (g : vS) (a : Int32) : Int32 := (if (X_X11_needUser g (a)) = 0 then (g 22 (a).toNatClampNeg 0) else 0)
set_option maxHeartbeats 4000000 in
set_option maxRecDepth 100000 in
theorem c_X11_head {G : vG} (hG : G.1.stackTraces = false) {A : vN → Nat} {g : vS} {r : vH} (a : Int32)  : vCt G yX11_head cX11_head 2 (some .int) 1 [.ref (A (0, 0)), .int (a)] A (w g r) (fun v A2 h2 => X_X11_head g a = 0 ∧ v = some (.int (V_X11_head g a)) ∧ A2 = A ∧ h2 = w g r) (fun cls A2 h2 => X_X11_head g a ≠ 0 ∧ cls = vEx (X_X11_head g a) ∧ A2 = A ∧ h2 = w g r) 1 6 := by
  refine v_of hG (by decide +kernel) (Nat.le_of_ble_eq_true rfl) (lv := [(0, .ref (A (0, 0))), (1, .int (a))]) rfl (fun X C hnx => ?_)
  have C : vC G X cX11_head 2 RX11 (some .int) "head" 1 1 6 := C
  refine v_aload_n (pc := 0) C dX11_head_0 0 rfl rfl ?_
  refine v_iload_n (pc := 1) C dX11_head_1 1 rfl rfl ?_
  refine v_callV (pc := 2) C (0, 0) ck_0 rfl (c_X11_needUser hG (a) ) 1 wd_513 wd_62 wd_510 wd_512 wd_5 (by decide +kernel) (by decide) (by decide) rfl ([]) rfl (Nat.le_of_ble_eq_true rfl) (by decide) dX11_head_2 (fun cls9 A9 h9 hE9 => by obtain ⟨q9, rfl, rfl, rfl⟩ := hE9; exact v_out C hnx ⟨(by rw [show (X_X11_head g a) = (X_X11_needUser g (a)) from (by rw [X_X11_head, if_neg q9])]; exact q9), (by rw [show (X_X11_head g a) = (X_X11_needUser g (a)) from (by rw [X_X11_head, if_neg q9])]), rfl, rfl⟩ (by decide) (by decide)) (fun v9 A9 h9 hR9 => ?_)
  obtain ⟨x_1, rfl, hA9, rfl⟩ := hR9
  obtain rfl := hA9.symm
  refine v_st (k2 := 1) (n2 := 6) (st2 := [.ref (A (22, (a).toNatClampNeg))]) rfl rfl rfl ?_
  refine v_get (pc := 5) C (22, (a).toNatClampNeg) (v := .int ((g 22 (a).toNatClampNeg 0))) (ck_22 (g := g) (ok_needUser x_1)) rfl 4 (by decide) inX9 wd_478 rfl rfl dX11_head_5 ?_
  exact v_iret (pc := 8) C (by decide) (by decide) dX11_head_8 ⟨(by rw [X_X11_head, if_pos x_1]), (congrArg (fun q => some (Value.int q)) (by show _ = _; rw [V_X11_head, if_pos x_1])), rfl, rfl⟩
def X_X11_alarms (g : vS) (a : Int32) : Nat := (if (X_X11_needUser g (a)) = 0 then 0 else (X_X11_needUser g (a)))
def V_X11_alarms (g : vS) (a : Int32) : Int32 := (if (X_X11_needUser g (a)) = 0 then (g 24 (a).toNatClampNeg 0) else 0)
set_option maxHeartbeats 4000000 in
set_option maxRecDepth 100000 in
theorem c_X11_alarms {G : vG} (hG : G.1.stackTraces = false) {A : vN → Nat} {g : vS} {r : vH} (a : Int32)  : vCt G yX11_alarms cX11_alarms 2 (some .int) 1 [.ref (A (0, 0)), .int (a)] A (w g r) (fun v A2 h2 => X_X11_alarms g a = 0 ∧ v = some (.int (V_X11_alarms g a)) ∧ A2 = A ∧ h2 = w g r) (fun cls A2 h2 => X_X11_alarms g a ≠ 0 ∧ cls = vEx (X_X11_alarms g a) ∧ A2 = A ∧ h2 = w g r) 1 6 := by
  refine v_of hG (by decide +kernel) (Nat.le_of_ble_eq_true rfl) (lv := [(0, .ref (A (0, 0))), (1, .int (a))]) rfl (fun X C hnx => ?_)
  have C : vC G X cX11_alarms 2 RX11 (some .int) "alarms" 1 1 6 := C
  refine v_aload_n (pc := 0) C dX11_alarms_0 0 rfl rfl ?_
  refine v_iload_n (pc := 1) C dX11_alarms_1 1 rfl rfl ?_
  refine v_callV (pc := 2) C (0, 0) ck_0 rfl (c_X11_needUser hG (a) ) 1 wd_513 wd_62 wd_510 wd_512 wd_5 (by decide +kernel) (by decide) (by decide) rfl ([]) rfl (Nat.le_of_ble_eq_true rfl) (by decide) dX11_alarms_2 (fun cls9 A9 h9 hE9 => by obtain ⟨q9, rfl, rfl, rfl⟩ := hE9; exact v_out C hnx ⟨(by rw [show (X_X11_alarms g a) = (X_X11_needUser g (a)) from (by rw [X_X11_alarms, if_neg q9])]; exact q9), (by rw [show (X_X11_alarms g a) = (X_X11_needUser g (a)) from (by rw [X_X11_alarms, if_neg q9])]), rfl, rfl⟩ (by decide) (by decide)) (fun v9 A9 h9 hR9 => ?_)
  obtain ⟨x_1, rfl, hA9, rfl⟩ := hR9
  obtain rfl := hA9.symm
  refine v_st (k2 := 1) (n2 := 6) (st2 := [.ref (A (22, (a).toNatClampNeg))]) rfl rfl rfl ?_
  refine v_get (pc := 5) C (22, (a).toNatClampNeg) (v := .int ((g 24 (a).toNatClampNeg 0))) (ck_22 (g := g) (ok_needUser x_1)) rfl 6 (by decide) inX9 wd_480 rfl rfl dX11_alarms_5 ?_
  exact v_iret (pc := 8) C (by decide) (by decide) dX11_alarms_8 ⟨(by rw [X_X11_alarms, if_pos x_1]), (congrArg (fun q => some (Value.int q)) (by show _ = _; rw [V_X11_alarms, if_pos x_1])), rfl, rfl⟩
def V_X11_leaves (g : vS)  : Int32 := (V_X5_count g)
set_option maxHeartbeats 4000000 in
set_option maxRecDepth 100000 in
theorem c_X11_leaves {G : vG} (hG : G.1.stackTraces = false) {A : vN → Nat} {g : vS} {r : vH}   : vCt G yX11_leaves cX11_leaves 1 (some .int) 1 [.ref (A (0, 0))] A (w g r) (fun v A2 h2 => v = some (.int (V_X11_leaves g)) ∧ A2 = A ∧ h2 = w g r) (vNoX) 0 0 := by
  refine v_of hG (by decide +kernel) (Nat.le_of_ble_eq_true rfl) (lv := [(0, .ref (A (0, 0)))]) rfl (fun X C hnx => ?_)
  have C : vC G X cX11_leaves 1 RX11 (some .int) "leaves" 1 0 0 := C
  refine v_aload_n (pc := 0) C dX11_leaves_0 0 rfl rfl ?_
  refine v_get (pc := 1) C (0, 0) (v := .ref (A (4, 0))) ck_0 rfl 3 (by decide) inX11 wd_223 rfl rfl dX11_leaves_1 ?_
  refine v_callV (pc := 4) C (4, 0) ck_4 rfl (c_X5_count hG  ) 0 wd_276 wd_63 wd_273 wd_274 wd_275 (by decide +kernel) (by decide) (by decide) rfl ([]) rfl (Nat.le_of_ble_eq_true rfl) (by decide) dX11_leaves_4 (fun _ _ _ q => q.elim) (fun v9 A9 h9 hR9 => ?_)
  obtain ⟨rfl, hA9, rfl⟩ := hR9
  obtain rfl := hA9.symm
  refine v_st (k2 := 0) (n2 := 0) (st2 := [.int ((V_X5_count g))]) rfl rfl rfl ?_
  exact v_iret (pc := 7) C (by decide) (by decide) dX11_leaves_7 ⟨(congrArg (fun q => some (Value.int q)) (by show _ = _; rw [V_X11_leaves])), rfl, rfl⟩
def X_X11_leaf (g : vS) (x : Int32) : Nat := (if x < 0 then 5 else (if x < (V_X5_count g) then 0 else 5))
def V_X11_leaf (g : vS) (x : Int32) : Int32 := (if x < 0 then 0 else (if x < (V_X5_count g) then (V_X5_leafAt g (x)) else 0))
set_option maxHeartbeats 4000000 in
set_option maxRecDepth 100000 in
theorem c_X11_leaf {G : vG} (hG : G.1.stackTraces = false) {A : vN → Nat} {g : vS} {r : vH} (x : Int32)  : vCt G yX11_leaf cX11_leaf 2 (some .int) 1 [.ref (A (0, 0)), .int (x)] A (w g r) (fun v A2 h2 => X_X11_leaf g x = 0 ∧ v = some (.int (V_X11_leaf g x)) ∧ A2 = A ∧ h2 = w g r) (fun cls A2 h2 => X_X11_leaf g x ≠ 0 ∧ cls = vEx (X_X11_leaf g x) ∧ A2 = A ∧ h2 = w g r) 1 6 := by
  refine v_of hG (by decide +kernel) (Nat.le_of_ble_eq_true rfl) (lv := [(0, .ref (A (0, 0))), (1, .int (x))]) rfl (fun X C hnx => ?_)
  have C : vC G X cX11_leaf 2 RX11 (some .int) "leaf" 1 1 6 := C
  refine v_iload_n (pc := 0) C dX11_leaf_0 1 rfl rfl ?_
  refine v_if_lt (pc := 1) (tgt := 15) C dX11_leaf_1 (by decide) (fun c_1 => ?_) (fun c_1 => ?_)
  · skip
    exact v_throwW (pc := 15) C hnx (cls := "java/lang/IndexOutOfBoundsException") (text := "there is no such leaf") (by decide +kernel) wd_1003 wd_82 (by decide +kernel) at_IndexOutOfBoundsException (by decide) (by decide) (by decide) dX11_leaf_15 dX11_leaf_18 dX11_leaf_19 dX11_leaf_22 dX11_leaf_25 ⟨by rw [show (X_X11_leaf g x) = 5 from (by rw [X_X11_leaf, if_pos c_1])]; decide, by rw [show (X_X11_leaf g x) = 5 from (by rw [X_X11_leaf, if_pos c_1])]; rfl, rfl, rfl⟩
  · skip
    refine v_iload_n (pc := 4) C dX11_leaf_4 1 rfl rfl ?_
    refine v_aload_n (pc := 5) C dX11_leaf_5 0 rfl rfl ?_
    refine v_get (pc := 6) C (0, 0) (v := .ref (A (4, 0))) ck_0 rfl 3 (by decide) inX11 wd_223 rfl rfl dX11_leaf_6 ?_
    refine v_callV (pc := 9) C (4, 0) ck_4 rfl (c_X5_count hG  ) 0 wd_276 wd_63 wd_273 wd_274 wd_275 (by decide +kernel) (by decide) (by decide) rfl ([.int (x)]) rfl (Nat.le_of_ble_eq_true rfl) (by decide) dX11_leaf_9 (fun _ _ _ q => q.elim) (fun v9 A9 h9 hR9 => ?_)
    obtain ⟨rfl, hA9, rfl⟩ := hR9
    obtain rfl := hA9.symm
    refine v_st (k2 := 0) (n2 := 0) (st2 := [.int ((V_X5_count g)), .int (x)]) rfl rfl rfl ?_
    refine v_icmp_lt (pc := 12) (tgt := 26) C dX11_leaf_12 (by decide) (fun c_2 => ?_) (fun c_2 => ?_)
    · skip
      refine v_aload_n (pc := 26) C dX11_leaf_26 0 rfl rfl ?_
      refine v_get (pc := 27) C (0, 0) (v := .ref (A (4, 0))) ck_0 rfl 3 (by decide) inX11 wd_223 rfl rfl dX11_leaf_27 ?_
      refine v_iload_n (pc := 30) C dX11_leaf_30 1 rfl rfl ?_
      refine v_callV (pc := 31) C (4, 0) ck_4 rfl (c_X5_leafAt hG (x) ) 1 wd_1038 wd_63 wd_1035 wd_1036 wd_1037 (by decide +kernel) (by decide) (by decide) rfl ([]) rfl (Nat.le_of_ble_eq_true rfl) (by decide) dX11_leaf_31 (fun _ _ _ q => q.elim) (fun v9 A9 h9 hR9 => ?_)
      obtain ⟨rfl, hA9, rfl⟩ := hR9
      obtain rfl := hA9.symm
      refine v_st (k2 := 0) (n2 := 0) (st2 := [.int ((V_X5_leafAt g (x)))]) rfl rfl rfl ?_
      exact v_iret (pc := 34) C (by decide) (by decide) dX11_leaf_34 ⟨(by rw [X_X11_leaf, if_neg c_1, if_pos c_2]), (congrArg (fun q => some (Value.int q)) (by show _ = _; rw [V_X11_leaf, if_neg c_1, if_pos c_2])), rfl, rfl⟩
    · skip
      exact v_throwW (pc := 15) C hnx (cls := "java/lang/IndexOutOfBoundsException") (text := "there is no such leaf") (by decide +kernel) wd_1003 wd_82 (by decide +kernel) at_IndexOutOfBoundsException (by decide) (by decide) (by decide) dX11_leaf_15 dX11_leaf_18 dX11_leaf_19 dX11_leaf_22 dX11_leaf_25 ⟨by rw [show (X_X11_leaf g x) = 5 from (by rw [X_X11_leaf, if_neg c_1, if_neg c_2])]; decide, by rw [show (X_X11_leaf g x) = 5 from (by rw [X_X11_leaf, if_neg c_1, if_neg c_2])]; rfl, rfl, rfl⟩
def V_X11_conflicts (g : vS)  : Int32 := (g 5 0 0)
set_option maxHeartbeats 4000000 in
set_option maxRecDepth 100000 in
theorem c_X11_conflicts {G : vG} (hG : G.1.stackTraces = false) {A : vN → Nat} {g : vS} {r : vH}   : vCt G yX11_conflicts cX11_conflicts 1 (some .int) 0 [.ref (A (0, 0))] A (w g r) (fun v A2 h2 => v = some (.int (V_X11_conflicts g)) ∧ A2 = A ∧ h2 = w g r) (vNoX) 0 0 := by
  refine v_of hG (by decide +kernel) (Nat.le_of_ble_eq_true rfl) (lv := [(0, .ref (A (0, 0)))]) rfl (fun X C hnx => ?_)
  have C : vC G X cX11_conflicts 1 RX11 (some .int) "conflicts" 0 0 0 := C
  refine v_aload_n (pc := 0) C dX11_conflicts_0 0 rfl rfl ?_
  refine v_get (pc := 1) C (0, 0) (v := .int ((g 5 0 0))) ck_0 rfl 11 (by decide) inX11 wd_231 rfl rfl dX11_conflicts_1 ?_
  exact v_iret (pc := 4) C (by decide) (by decide) dX11_conflicts_4 ⟨(congrArg (fun q => some (Value.int q)) (by show _ = _; rw [V_X11_conflicts])), rfl, rfl⟩
def V_X11_drop (g : vS)  : Int32 := (V_X7_clear g)
def S_X11_drop (g : vS)  : vS := (S_X7_clear g)
theorem F_X11_drop {g : vS}  {c i j : Nat} (h17 : c ≠ 17) (h82 : c ≠ 82) : S_X11_drop g c i j = g c i j := by
  unfold S_X11_drop
  (repeat' split) <;> first | rfl | ((simp only [s3_k h17, s3_k h82, F_X7_clear h17 h82]) <;> first | done | rfl)
set_option maxHeartbeats 4000000 in
set_option maxRecDepth 100000 in
theorem c_X11_drop {G : vG} (hG : G.1.stackTraces = false) {A : vN → Nat} {g : vS} {r : vH}   : vCt G yX11_drop cX11_drop 1 (some .int) 1 [.ref (A (0, 0))] A (w g r) (fun v A2 h2 => v = some (.int (V_X11_drop g)) ∧ A2 = A ∧ h2 = w (S_X11_drop g) r) (vNoX) 0 0 := by
  refine v_of hG (by decide +kernel) (Nat.le_of_ble_eq_true rfl) (lv := [(0, .ref (A (0, 0)))]) rfl (fun X C hnx => ?_)
  have C : vC G X cX11_drop 1 RX11 (some .int) "drop" 1 0 0 := C
  refine v_aload_n (pc := 0) C dX11_drop_0 0 rfl rfl ?_
  refine v_get (pc := 1) C (0, 0) (v := .ref (A (18, 0))) ck_0 rfl 6 (by decide) inX11 wd_226 rfl rfl dX11_drop_1 ?_
  refine v_callV (pc := 4) C (18, 0) ck_18 rfl (c_X7_clear hG  ) 0 wd_284 wd_67 wd_281 wd_282 wd_283 (by decide +kernel) (by decide) (by decide) rfl ([]) rfl (Nat.le_of_ble_eq_true rfl) (by decide) dX11_drop_4 (fun _ _ _ q => q.elim) (fun v9 A9 h9 hR9 => ?_)
  obtain ⟨rfl, hA9, rfl⟩ := hR9
  obtain rfl := hA9.symm
  refine v_st (k2 := 0) (n2 := 0) (st2 := [.int ((V_X7_clear g))]) rfl rfl rfl ?_
  exact v_iret (pc := 7) C (by decide) (by decide) dX11_drop_7 ⟨(congrArg (fun q => some (Value.int q)) (by show _ = _; rw [V_X11_drop])), rfl, (congrArg (fun q => w q r) (by show _ = _; rw [S_X11_drop]))⟩
def X_X11_forget (g : vS) (n : Int32) : Nat := (if (X_X11_needLeaves g (n)) = 0 then 0 else (X_X11_needLeaves g (n)))
def V_X11_forget (g : vS) (n : Int32) : Int32 := (if (X_X11_needLeaves g (n)) = 0 then (V_X5_cutTo g (n)) else 0)
def S_X11_forget (g : vS) (n : Int32) : vS := (if (X_X11_needLeaves g (n)) = 0 then (S_X5_cutTo g (n)) else g)
theorem F_X11_forget {g : vS} {n : Int32} {c i j : Nat} (h4 : c ≠ 4) : S_X11_forget g n c i j = g c i j := by
  unfold S_X11_forget
  (repeat' split) <;> first | rfl | ((simp only [s3_k h4, F_X5_cutTo h4]) <;> first | done | rfl)
set_option maxHeartbeats 4000000 in
set_option maxRecDepth 100000 in
theorem c_X11_forget {G : vG} (hG : G.1.stackTraces = false) {A : vN → Nat} {g : vS} {r : vH} (n : Int32)  : vCt G yX11_forget cX11_forget 2 (some .int) 2 [.ref (A (0, 0)), .int (n)] A (w g r) (fun v A2 h2 => X_X11_forget g n = 0 ∧ v = some (.int (V_X11_forget g n)) ∧ A2 = A ∧ h2 = w (S_X11_forget g n) r) (fun cls A2 h2 => X_X11_forget g n ≠ 0 ∧ cls = vEx (X_X11_forget g n) ∧ A2 = A ∧ h2 = w (S_X11_forget g n) r) 1 6 := by
  refine v_of hG (by decide +kernel) (Nat.le_of_ble_eq_true rfl) (lv := [(0, .ref (A (0, 0))), (1, .int (n))]) rfl (fun X C hnx => ?_)
  have C : vC G X cX11_forget 2 RX11 (some .int) "forget" 2 1 6 := C
  refine v_aload_n (pc := 0) C dX11_forget_0 0 rfl rfl ?_
  refine v_iload_n (pc := 1) C dX11_forget_1 1 rfl rfl ?_
  refine v_callV (pc := 2) C (0, 0) ck_0 rfl (c_X11_needLeaves hG (n) ) 1 wd_1049 wd_62 wd_1046 wd_1048 wd_21 (by decide +kernel) (by decide) (by decide) rfl ([]) rfl (Nat.le_of_ble_eq_true rfl) (by decide) dX11_forget_2 (fun cls9 A9 h9 hE9 => by obtain ⟨q9, rfl, rfl, rfl⟩ := hE9; exact v_out C hnx ⟨(by rw [show (X_X11_forget g n) = (X_X11_needLeaves g (n)) from (by rw [X_X11_forget, if_neg q9])]; exact q9), (by rw [show (X_X11_forget g n) = (X_X11_needLeaves g (n)) from (by rw [X_X11_forget, if_neg q9])]), rfl, (congrArg (fun q => w q r) (by show _ = _; rw [S_X11_forget, if_neg q9]))⟩ (by decide) (by decide)) (fun v9 A9 h9 hR9 => ?_)
  obtain ⟨x_1, rfl, hA9, rfl⟩ := hR9
  obtain rfl := hA9.symm
  refine v_st (k2 := 1) (n2 := 6) (st2 := []) rfl rfl rfl ?_
  refine v_aload_n (pc := 5) C dX11_forget_5 0 rfl rfl ?_
  refine v_get (pc := 6) C (0, 0) (v := .ref (A (4, 0))) ck_0 rfl 3 (by decide) inX11 wd_223 rfl rfl dX11_forget_6 ?_
  refine v_iload_n (pc := 9) C dX11_forget_9 1 rfl rfl ?_
  refine v_callV (pc := 10) C (4, 0) ck_4 rfl (c_X5_cutTo hG (n) ) 1 wd_1131 wd_63 wd_1128 wd_1129 wd_1130 (by decide +kernel) (by decide) (by decide) rfl ([]) rfl (Nat.le_of_ble_eq_true rfl) (by decide) dX11_forget_10 (fun _ _ _ q => q.elim) (fun v9 A9 h9 hR9 => ?_)
  obtain ⟨rfl, hA9, rfl⟩ := hR9
  obtain rfl := hA9.symm
  refine v_st (k2 := 1) (n2 := 6) (st2 := [.int ((V_X5_cutTo g (n)))]) rfl rfl rfl ?_
  exact v_iret (pc := 13) C (by decide) (by decide) dX11_forget_13 ⟨(by rw [X_X11_forget, if_pos x_1]), (congrArg (fun q => some (Value.int q)) (by show _ = _; rw [V_X11_forget, if_pos x_1])), rfl, (congrArg (fun q => w q r) (by show _ = _; rw [S_X11_forget, if_pos x_1]))⟩
def X_X11_split (g : vS) (a : Int32) (m : Int32) (n : Int32) : Nat := (if (X_X11_needUser g (a)) = 0 then (if m < 1 then 2 else (if 8 < m then 2 else (if n < 1 then 2 else (if n ≤ m then 0 else 2)))) else (X_X11_needUser g (a)))
def V_X11_split (g : vS) (a : Int32) (m : Int32) (n : Int32) : Int32 := (if (X_X11_needUser g (a)) = 0 then (if m < 1 then 0 else (if 8 < m then 0 else (if n < 1 then 0 else (if n ≤ m then (g 26 (a).toNatClampNeg 0) else 0)))) else 0)
def S_X11_split (g : vS) (a : Int32) (m : Int32) (n : Int32) : vS := (if (X_X11_needUser g (a)) = 0 then (if m < 1 then g else (if 8 < m then g else (if n < 1 then g else (if n ≤ m then (s3 (s3 g 25 (a).toNatClampNeg 0 (m)) 26 (a).toNatClampNeg 0 (n)) else g)))) else g)
theorem F_X11_split {g : vS} {a : Int32} {m : Int32} {n : Int32} {c i j : Nat} (h25 : c ≠ 25) (h26 : c ≠ 26) : S_X11_split g a m n c i j = g c i j := by
  unfold S_X11_split
  (repeat' split) <;> first | rfl | ((simp only [s3_k h25, s3_k h26]) <;> first | done | rfl)
set_option maxHeartbeats 4000000 in
set_option maxRecDepth 100000 in
theorem c_X11_split {G : vG} (hG : G.1.stackTraces = false) {A : vN → Nat} {g : vS} {r : vH} (a : Int32) (m : Int32) (n : Int32)  : vCt G yX11_split cX11_split 6 (some .int) 1 [.ref (A (0, 0)), .int (a), .int (m), .int (n)] A (w g r) (fun v A2 h2 => X_X11_split g a m n = 0 ∧ v = some (.int (V_X11_split g a m n)) ∧ A2 = A ∧ h2 = w (S_X11_split g a m n) r) (fun cls A2 h2 => X_X11_split g a m n ≠ 0 ∧ cls = vEx (X_X11_split g a m n) ∧ A2 = A ∧ h2 = w (S_X11_split g a m n) r) 2 12 := by
  refine v_of hG (by decide +kernel) (Nat.le_of_ble_eq_true rfl) (lv := [(0, .ref (A (0, 0))), (1, .int (a)), (2, .int (m)), (3, .int (n))]) rfl (fun X C hnx => ?_)
  have C : vC G X cX11_split 6 RX11 (some .int) "split" 1 2 12 := C
  refine v_aload_n (pc := 0) C dX11_split_0 0 rfl rfl ?_
  refine v_iload_n (pc := 1) C dX11_split_1 1 rfl rfl ?_
  refine v_callV (pc := 2) C (0, 0) ck_0 rfl (c_X11_needUser hG (a) ) 1 wd_513 wd_62 wd_510 wd_512 wd_5 (by decide +kernel) (by decide) (by decide) rfl ([]) rfl (Nat.le_of_ble_eq_true rfl) (by decide) dX11_split_2 (fun cls9 A9 h9 hE9 => by obtain ⟨q9, rfl, rfl, rfl⟩ := hE9; exact v_out C hnx ⟨(by rw [show (X_X11_split g a m n) = (X_X11_needUser g (a)) from (by rw [X_X11_split, if_neg q9])]; exact q9), (by rw [show (X_X11_split g a m n) = (X_X11_needUser g (a)) from (by rw [X_X11_split, if_neg q9])]), rfl, (congrArg (fun q => w q r) (by show _ = _; rw [S_X11_split, if_neg q9]))⟩ (by decide) (by decide)) (fun v9 A9 h9 hR9 => ?_)
  obtain ⟨x_1, rfl, hA9, rfl⟩ := hR9
  obtain rfl := hA9.symm
  refine v_st (k2 := 1) (n2 := 6) (st2 := [.ref (A (22, (a).toNatClampNeg))]) rfl rfl rfl ?_
  refine v_astore (lv2 := [(4, .ref (A (22, (a).toNatClampNeg))), (0, .ref (A (0, 0))), (1, .int (a)), (2, .int (m)), (3, .int (n))]) (pc := 5) C dX11_split_5 (by decide) rfl ?_
  refine v_iload_n (pc := 7) C dX11_split_7 3 rfl rfl ?_
  refine v_iconst (v := 1) (pc := 8) C dX11_split_8 rfl ?_
  refine v_icmp_lt (pc := 9) (tgt := 28) C dX11_split_9 (by decide) (fun c_2 => ?_) (fun c_2 => ?_)
  · skip
    exact v_throwW (pc := 28) C hnx (cls := "java/lang/IllegalArgumentException") (text := "a number is out of range") (by decide +kernel) wd_359 wd_72 (by decide +kernel) at_IllegalArgumentException (by decide) (by decide) (by decide) dX11_split_28 dX11_split_31 dX11_split_32 dX11_split_35 dX11_split_38 ⟨by rw [show (X_X11_split g a m n) = 2 from (by rw [X_X11_split, if_pos x_1, if_pos c_2])]; decide, by rw [show (X_X11_split g a m n) = 2 from (by rw [X_X11_split, if_pos x_1, if_pos c_2])]; rfl, rfl, (congrArg (fun q => w q r) (by show _ = _; rw [S_X11_split, if_pos x_1, if_pos c_2]))⟩
  · skip
    refine v_iload_n (pc := 12) C dX11_split_12 3 rfl rfl ?_
    refine v_bipush (v := 8) (pc := 13) C dX11_split_13 (by decide) ?_
    refine v_icmp_gt (pc := 15) (tgt := 28) C dX11_split_15 (by decide) (fun c_3 => ?_) (fun c_3 => ?_)
    · skip
      exact v_throwW (pc := 28) C hnx (cls := "java/lang/IllegalArgumentException") (text := "a number is out of range") (by decide +kernel) wd_359 wd_72 (by decide +kernel) at_IllegalArgumentException (by decide) (by decide) (by decide) dX11_split_28 dX11_split_31 dX11_split_32 dX11_split_35 dX11_split_38 ⟨by rw [show (X_X11_split g a m n) = 2 from (by rw [X_X11_split, if_pos x_1, if_neg c_2, if_pos c_3])]; decide, by rw [show (X_X11_split g a m n) = 2 from (by rw [X_X11_split, if_pos x_1, if_neg c_2, if_pos c_3])]; rfl, rfl, (congrArg (fun q => w q r) (by show _ = _; rw [S_X11_split, if_pos x_1, if_neg c_2, if_pos c_3]))⟩
    · skip
      refine v_iload_n (pc := 18) C dX11_split_18 4 rfl rfl ?_
      refine v_iconst (v := 1) (pc := 19) C dX11_split_19 rfl ?_
      refine v_icmp_lt (pc := 20) (tgt := 28) C dX11_split_20 (by decide) (fun c_4 => ?_) (fun c_4 => ?_)
      · skip
        exact v_throwW (pc := 28) C hnx (cls := "java/lang/IllegalArgumentException") (text := "a number is out of range") (by decide +kernel) wd_359 wd_72 (by decide +kernel) at_IllegalArgumentException (by decide) (by decide) (by decide) dX11_split_28 dX11_split_31 dX11_split_32 dX11_split_35 dX11_split_38 ⟨by rw [show (X_X11_split g a m n) = 2 from (by rw [X_X11_split, if_pos x_1, if_neg c_2, if_neg c_3, if_pos c_4])]; decide, by rw [show (X_X11_split g a m n) = 2 from (by rw [X_X11_split, if_pos x_1, if_neg c_2, if_neg c_3, if_pos c_4])]; rfl, rfl, (congrArg (fun q => w q r) (by show _ = _; rw [S_X11_split, if_pos x_1, if_neg c_2, if_neg c_3, if_pos c_4]))⟩
      · skip
        refine v_iload_n (pc := 23) C dX11_split_23 4 rfl rfl ?_
        refine v_iload_n (pc := 24) C dX11_split_24 3 rfl rfl ?_
        refine v_icmp_le (pc := 25) (tgt := 39) C dX11_split_25 (by decide) (fun c_5 => ?_) (fun c_5 => ?_)
        · skip
          refine v_aload (pc := 39) C dX11_split_39 0 rfl ?_
          refine v_get (pc := 41) C (22, (a).toNatClampNeg) (v := .int ((g 26 (a).toNatClampNeg 0))) (ck_22 (g := g) (ok_needUser x_1)) rfl 8 (by decide) inX9 wd_482 rfl rfl dX11_split_41 ?_
          refine v_istore (lv2 := [(5, .int ((g 26 (a).toNatClampNeg 0))), (4, .ref (A (22, (a).toNatClampNeg))), (0, .ref (A (0, 0))), (1, .int (a)), (2, .int (m)), (3, .int (n))]) (pc := 44) C dX11_split_44 (by decide) rfl ?_
          refine v_aload (pc := 46) C dX11_split_46 1 rfl ?_
          refine v_iload_n (pc := 48) C dX11_split_48 4 rfl rfl ?_
          refine v_put (pc := 49) C (22, (a).toNatClampNeg) (v := .int (m)) (ck_22 (g := g) (ok_needUser x_1)) rfl 7 (by decide) inX9 tyX9 tyX9_ok nmX9 wd_481 rfl (.inl (Value.int (m))) rfl (ty := tyX9 7) (by decide +kernel) rfl rfl (Nat.le_of_ble_eq_true rfl) dX11_split_49 ?_
          refine v_h (h2 := (w (s3 g 25 (a).toNatClampNeg 0 (m)) r)) (u_22_7 (g := g) (ok_needUser x_1)) ?_
          refine v_aload (pc := 52) C dX11_split_52 1 rfl ?_
          refine v_iload_n (pc := 54) C dX11_split_54 5 rfl rfl ?_
          refine v_put (pc := 55) C (22, (a).toNatClampNeg) (v := .int (n)) (ck_22 (g := (s3 g 25 (a).toNatClampNeg 0 (m))) (ok_needUser x_1)) rfl 8 (by decide) inX9 tyX9 tyX9_ok nmX9 wd_482 rfl (.inl (Value.int (n))) rfl (ty := tyX9 8) (by decide +kernel) rfl rfl (Nat.le_of_ble_eq_true rfl) dX11_split_55 ?_
          refine v_h (h2 := (w (s3 (s3 g 25 (a).toNatClampNeg 0 (m)) 26 (a).toNatClampNeg 0 (n)) r)) (u_22_8 (g := (s3 g 25 (a).toNatClampNeg 0 (m))) (ok_needUser x_1)) ?_
          refine v_iload (pc := 58) C dX11_split_58 0 rfl ?_
          exact v_iret (pc := 60) C (by decide) (by decide) dX11_split_60 ⟨(by rw [X_X11_split, if_pos x_1, if_neg c_2, if_neg c_3, if_neg c_4, if_pos c_5]), (congrArg (fun q => some (Value.int q)) (by show _ = _; rw [V_X11_split, if_pos x_1, if_neg c_2, if_neg c_3, if_neg c_4, if_pos c_5])), rfl, (congrArg (fun q => w q r) (by show _ = _; rw [S_X11_split, if_pos x_1, if_neg c_2, if_neg c_3, if_neg c_4, if_pos c_5]))⟩
        · skip
          exact v_throwW (pc := 28) C hnx (cls := "java/lang/IllegalArgumentException") (text := "a number is out of range") (by decide +kernel) wd_359 wd_72 (by decide +kernel) at_IllegalArgumentException (by decide) (by decide) (by decide) dX11_split_28 dX11_split_31 dX11_split_32 dX11_split_35 dX11_split_38 ⟨by rw [show (X_X11_split g a m n) = 2 from (by rw [X_X11_split, if_pos x_1, if_neg c_2, if_neg c_3, if_neg c_4, if_neg c_5])]; decide, by rw [show (X_X11_split g a m n) = 2 from (by rw [X_X11_split, if_pos x_1, if_neg c_2, if_neg c_3, if_neg c_4, if_neg c_5])]; rfl, rfl, (congrArg (fun q => w q r) (by show _ = _; rw [S_X11_split, if_pos x_1, if_neg c_2, if_neg c_3, if_neg c_4, if_neg c_5]))⟩
def X_X11_collect (g : vS) (x : Int32) (y : Int32) : Nat := (if x < 1 then 2 else (if 8 < x then 2 else (if y < 0 then 2 else (if y < 65521 then 0 else 2))))
def V_X11_collect (g : vS) (x : Int32) (y : Int32) : Int32 := (if x < 1 then 0 else (if 8 < x then 0 else (if y < 0 then 0 else (if y < 65521 then (V_X7_keptCount (S_X7_keep g (x) (y))) else 0))))
def S_X11_collect (g : vS) (x : Int32) (y : Int32) : vS := (if x < 1 then g else (if 8 < x then g else (if y < 0 then g else (if y < 65521 then (S_X7_keep g (x) (y)) else g))))
theorem F_X11_collect {g : vS} {x : Int32} {y : Int32} {c i j : Nat} (h17 : c ≠ 17) (h82 : c ≠ 82) (h83 : c ≠ 83) : S_X11_collect g x y c i j = g c i j := by
  unfold S_X11_collect
  (repeat' split) <;> first | rfl | ((simp only [s3_k h17, s3_k h82, s3_k h83, F_X7_keep h17 h82 h83]) <;> first | done | rfl)
set_option maxHeartbeats 4000000 in
set_option maxRecDepth 100000 in
theorem c_X11_collect {G : vG} (hG : G.1.stackTraces = false) {A : vN → Nat} {g : vS} {r : vH} (x : Int32) (y : Int32)  : vCt G yX11_collect cX11_collect 3 (some .int) 1 [.ref (A (0, 0)), .int (x), .int (y)] A (w g r) (fun v A2 h2 => X_X11_collect g x y = 0 ∧ v = some (.int (V_X11_collect g x y)) ∧ A2 = A ∧ h2 = w (S_X11_collect g x y) r) (fun cls A2 h2 => X_X11_collect g x y ≠ 0 ∧ cls = vEx (X_X11_collect g x y) ∧ A2 = A ∧ h2 = w (S_X11_collect g x y) r) 1 6 := by
  refine v_of hG (by decide +kernel) (Nat.le_of_ble_eq_true rfl) (lv := [(0, .ref (A (0, 0))), (1, .int (x)), (2, .int (y))]) rfl (fun X C hnx => ?_)
  have C : vC G X cX11_collect 3 RX11 (some .int) "collect" 1 1 6 := C
  refine v_iload_n (pc := 0) C dX11_collect_0 1 rfl rfl ?_
  refine v_iconst (v := 1) (pc := 1) C dX11_collect_1 rfl ?_
  refine v_icmp_lt (pc := 2) (tgt := 22) C dX11_collect_2 (by decide) (fun c_1 => ?_) (fun c_1 => ?_)
  · skip
    exact v_throwW (pc := 22) C hnx (cls := "java/lang/IllegalArgumentException") (text := "a number is out of range") (by decide +kernel) wd_359 wd_72 (by decide +kernel) at_IllegalArgumentException (by decide) (by decide) (by decide) dX11_collect_22 dX11_collect_25 dX11_collect_26 dX11_collect_29 dX11_collect_32 ⟨by rw [show (X_X11_collect g x y) = 2 from (by rw [X_X11_collect, if_pos c_1])]; decide, by rw [show (X_X11_collect g x y) = 2 from (by rw [X_X11_collect, if_pos c_1])]; rfl, rfl, (congrArg (fun q => w q r) (by show _ = _; rw [S_X11_collect, if_pos c_1]))⟩
  · skip
    refine v_iload_n (pc := 5) C dX11_collect_5 1 rfl rfl ?_
    refine v_bipush (v := 8) (pc := 6) C dX11_collect_6 (by decide) ?_
    refine v_icmp_gt (pc := 8) (tgt := 22) C dX11_collect_8 (by decide) (fun c_2 => ?_) (fun c_2 => ?_)
    · skip
      exact v_throwW (pc := 22) C hnx (cls := "java/lang/IllegalArgumentException") (text := "a number is out of range") (by decide +kernel) wd_359 wd_72 (by decide +kernel) at_IllegalArgumentException (by decide) (by decide) (by decide) dX11_collect_22 dX11_collect_25 dX11_collect_26 dX11_collect_29 dX11_collect_32 ⟨by rw [show (X_X11_collect g x y) = 2 from (by rw [X_X11_collect, if_neg c_1, if_pos c_2])]; decide, by rw [show (X_X11_collect g x y) = 2 from (by rw [X_X11_collect, if_neg c_1, if_pos c_2])]; rfl, rfl, (congrArg (fun q => w q r) (by show _ = _; rw [S_X11_collect, if_neg c_1, if_pos c_2]))⟩
    · skip
      refine v_iload_n (pc := 11) C dX11_collect_11 2 rfl rfl ?_
      refine v_if_lt (pc := 12) (tgt := 22) C dX11_collect_12 (by decide) (fun c_3 => ?_) (fun c_3 => ?_)
      · skip
        exact v_throwW (pc := 22) C hnx (cls := "java/lang/IllegalArgumentException") (text := "a number is out of range") (by decide +kernel) wd_359 wd_72 (by decide +kernel) at_IllegalArgumentException (by decide) (by decide) (by decide) dX11_collect_22 dX11_collect_25 dX11_collect_26 dX11_collect_29 dX11_collect_32 ⟨by rw [show (X_X11_collect g x y) = 2 from (by rw [X_X11_collect, if_neg c_1, if_neg c_2, if_pos c_3])]; decide, by rw [show (X_X11_collect g x y) = 2 from (by rw [X_X11_collect, if_neg c_1, if_neg c_2, if_pos c_3])]; rfl, rfl, (congrArg (fun q => w q r) (by show _ = _; rw [S_X11_collect, if_neg c_1, if_neg c_2, if_pos c_3]))⟩
      · skip
        refine v_iload_n (pc := 15) C dX11_collect_15 2 rfl rfl ?_
        refine v_ldcw (v := 65521) (pc := 16) C dX11_collect_16 wd_1198 ?_
        refine v_icmp_lt (pc := 19) (tgt := 33) C dX11_collect_19 (by decide) (fun c_4 => ?_) (fun c_4 => ?_)
        · skip
          refine v_aload_n (pc := 33) C dX11_collect_33 0 rfl rfl ?_
          refine v_get (pc := 34) C (0, 0) (v := .ref (A (18, 0))) ck_0 rfl 6 (by decide) inX11 wd_226 rfl rfl dX11_collect_34 ?_
          refine v_iload_n (pc := 37) C dX11_collect_37 1 rfl rfl ?_
          refine v_iload_n (pc := 38) C dX11_collect_38 2 rfl rfl ?_
          refine v_callV (pc := 39) C (18, 0) ck_18 rfl (c_X7_keep hG (x) (y) ) 2 wd_1202 wd_67 wd_1199 wd_1200 wd_1201 (by decide +kernel) (by decide) (by decide) rfl ([]) rfl (Nat.le_of_ble_eq_true rfl) (by decide) dX11_collect_39 (fun _ _ _ q => q.elim) (fun v9 A9 h9 hR9 => ?_)
          obtain ⟨rfl, hA9, rfl⟩ := hR9
          obtain rfl := hA9.symm
          refine v_st (k2 := 0) (n2 := 0) (st2 := []) rfl rfl rfl ?_
          refine v_aload_n (pc := 42) C dX11_collect_42 0 rfl rfl ?_
          refine v_get (pc := 43) C (0, 0) (v := .ref (A (18, 0))) ck_0 rfl 6 (by decide) inX11 wd_226 rfl rfl dX11_collect_43 ?_
          refine v_callV (pc := 46) C (18, 0) ck_18 rfl (c_X7_keptCount hG  ) 0 wd_1206 wd_67 wd_1203 wd_1204 wd_1205 (by decide +kernel) (by decide) (by decide) rfl ([]) rfl (Nat.le_of_ble_eq_true rfl) (by decide) dX11_collect_46 (fun _ _ _ q => q.elim) (fun v9 A9 h9 hR9 => ?_)
          obtain ⟨rfl, hA9, rfl⟩ := hR9
          obtain rfl := hA9.symm
          refine v_st (k2 := 0) (n2 := 0) (st2 := [.int ((V_X7_keptCount (S_X7_keep g (x) (y))))]) rfl rfl rfl ?_
          exact v_iret (pc := 49) C (by decide) (by decide) dX11_collect_49 ⟨(by rw [X_X11_collect, if_neg c_1, if_neg c_2, if_neg c_3, if_pos c_4]), (congrArg (fun q => some (Value.int q)) (by show _ = _; rw [V_X11_collect, if_neg c_1, if_neg c_2, if_neg c_3, if_pos c_4])), rfl, (congrArg (fun q => w q r) (by show _ = _; rw [S_X11_collect, if_neg c_1, if_neg c_2, if_neg c_3, if_pos c_4]))⟩
        · skip
          exact v_throwW (pc := 22) C hnx (cls := "java/lang/IllegalArgumentException") (text := "a number is out of range") (by decide +kernel) wd_359 wd_72 (by decide +kernel) at_IllegalArgumentException (by decide) (by decide) (by decide) dX11_collect_22 dX11_collect_25 dX11_collect_26 dX11_collect_29 dX11_collect_32 ⟨by rw [show (X_X11_collect g x y) = 2 from (by rw [X_X11_collect, if_neg c_1, if_neg c_2, if_neg c_3, if_neg c_4])]; decide, by rw [show (X_X11_collect g x y) = 2 from (by rw [X_X11_collect, if_neg c_1, if_neg c_2, if_neg c_3, if_neg c_4])]; rfl, rfl, (congrArg (fun q => w q r) (by show _ = _; rw [S_X11_collect, if_neg c_1, if_neg c_2, if_neg c_3, if_neg c_4]))⟩
def X_X11_writes (g : vS) (a : Int32) (x : Int32) : Nat := (if (X_X11_needFile g (a)) = 0 then (if (X_X11_needPartNumber g (x)) = 0 then 0 else (X_X11_needPartNumber g (x))) else (X_X11_needFile g (a)))
def V_X11_writes (g : vS) (a : Int32) (x : Int32) : Int32 := (if (X_X11_needFile g (a)) = 0 then (if (X_X11_needPartNumber g (x)) = 0 then (V_X4_writesOf g ((a).toNatClampNeg) (x)) else 0) else 0)
set_option maxHeartbeats 4000000 in
set_option maxRecDepth 100000 in
theorem c_X11_writes {G : vG} (hG : G.1.stackTraces = false) {A : vN → Nat} {g : vS} {r : vH} (a : Int32) (x : Int32)  : vCt G yX11_writes cX11_writes 4 (some .int) 2 [.ref (A (0, 0)), .int (a), .int (x)] A (w g r) (fun v A2 h2 => X_X11_writes g a x = 0 ∧ v = some (.int (V_X11_writes g a x)) ∧ A2 = A ∧ h2 = w g r) (fun cls A2 h2 => X_X11_writes g a x ≠ 0 ∧ cls = vEx (X_X11_writes g a x) ∧ A2 = A ∧ h2 = w g r) 2 12 := by
  refine v_of hG (by decide +kernel) (Nat.le_of_ble_eq_true rfl) (lv := [(0, .ref (A (0, 0))), (1, .int (a)), (2, .int (x))]) rfl (fun X C hnx => ?_)
  have C : vC G X cX11_writes 4 RX11 (some .int) "writes" 2 2 12 := C
  refine v_aload_n (pc := 0) C dX11_writes_0 0 rfl rfl ?_
  refine v_iload_n (pc := 1) C dX11_writes_1 1 rfl rfl ?_
  refine v_callV (pc := 2) C (0, 0) ck_0 rfl (c_X11_needFile hG (a) ) 1 wd_748 wd_62 wd_745 wd_747 wd_13 (by decide +kernel) (by decide) (by decide) rfl ([]) rfl (Nat.le_of_ble_eq_true rfl) (by decide) dX11_writes_2 (fun cls9 A9 h9 hE9 => by obtain ⟨q9, rfl, rfl, rfl⟩ := hE9; exact v_out C hnx ⟨(by rw [show (X_X11_writes g a x) = (X_X11_needFile g (a)) from (by rw [X_X11_writes, if_neg q9])]; exact q9), (by rw [show (X_X11_writes g a x) = (X_X11_needFile g (a)) from (by rw [X_X11_writes, if_neg q9])]), rfl, rfl⟩ (by decide) (by decide)) (fun v9 A9 h9 hR9 => ?_)
  obtain ⟨x_1, rfl, hA9, rfl⟩ := hR9
  obtain rfl := hA9.symm
  refine v_st (k2 := 1) (n2 := 6) (st2 := [.ref (A (30, (a).toNatClampNeg))]) rfl rfl rfl ?_
  refine v_astore_n (lv2 := [(3, .ref (A (30, (a).toNatClampNeg))), (0, .ref (A (0, 0))), (1, .int (a)), (2, .int (x))]) (pc := 5) C dX11_writes_5 rfl (by decide) rfl ?_
  refine v_aload_n (pc := 6) C dX11_writes_6 1 rfl rfl ?_
  refine v_iload_n (pc := 7) C dX11_writes_7 3 rfl rfl ?_
  refine v_callV (pc := 8) C (0, 0) ck_0 rfl (c_X11_needPartNumber hG (x) ) 1 wd_753 wd_62 wd_750 wd_752 wd_14 (by decide +kernel) (by decide) (by decide) rfl ([]) rfl (Nat.le_of_ble_eq_true rfl) (by decide) dX11_writes_8 (fun cls9 A9 h9 hE9 => by obtain ⟨q9, rfl, rfl, rfl⟩ := hE9; exact v_out C hnx ⟨(by rw [show (X_X11_writes g a x) = (X_X11_needPartNumber g (x)) from (by rw [X_X11_writes, if_pos x_1, if_neg q9])]; exact q9), (by rw [show (X_X11_writes g a x) = (X_X11_needPartNumber g (x)) from (by rw [X_X11_writes, if_pos x_1, if_neg q9])]), rfl, rfl⟩ (by decide) (by decide)) (fun v9 A9 h9 hR9 => ?_)
  obtain ⟨x_2, rfl, hA9, rfl⟩ := hR9
  obtain rfl := hA9.symm
  refine v_st (k2 := 2) (n2 := 12) (st2 := []) rfl rfl rfl ?_
  refine v_aload_n (pc := 11) C dX11_writes_11 0 rfl rfl ?_
  refine v_iload_n (pc := 12) C dX11_writes_12 3 rfl rfl ?_
  refine v_callV (pc := 13) C (30, (a).toNatClampNeg) (ck_30 (g := g) (ok_needFile x_1)) rfl (c_X4_writesOf hG ((a).toNatClampNeg) (x) (ok_needFile x_1)) 1 wd_863 wd_80 wd_860 wd_861 wd_862 (by decide +kernel) (by decide) (by decide) rfl ([]) rfl (Nat.le_of_ble_eq_true rfl) (by decide) dX11_writes_13 (fun _ _ _ q => q.elim) (fun v9 A9 h9 hR9 => ?_)
  obtain ⟨rfl, hA9, rfl⟩ := hR9
  obtain rfl := hA9.symm
  refine v_st (k2 := 2) (n2 := 12) (st2 := [.int ((V_X4_writesOf g ((a).toNatClampNeg) (x)))]) rfl rfl rfl ?_
  exact v_iret (pc := 16) C (by decide) (by decide) dX11_writes_16 ⟨(by rw [X_X11_writes, if_pos x_1, if_pos x_2]), (congrArg (fun q => some (Value.int q)) (by show _ = _; rw [V_X11_writes, if_pos x_1, if_pos x_2])), rfl, rfl⟩
