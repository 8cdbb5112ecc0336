def VL_X4_dropParts_7 (g : vS) (f : Nat) : Nat → Nat → vS → Int32
  | 0, _, _ => 0
  | n + 1, i_7, q_7 => (if 8 ≤ nI i_7 then (V_X4_partCount g (f)) else (VL_X4_dropParts_7 g f n (i_7 + 1) (s3 q_7 106 f i_7 (0))))
def SL_X4_dropParts_7 (g : vS) (f : Nat) : Nat → Nat → vS → vS
  | 0, _, q9 => q9
  | n + 1, i_7, q_7 => (if 8 ≤ nI i_7 then q_7 else (SL_X4_dropParts_7 g f n (i_7 + 1) (s3 q_7 106 f i_7 (0))))
def V_X4_dropParts (g : vS) (f : Nat) : Int32 := (VL_X4_dropParts_7 g f (8 + 1) 0 g)
def S_X4_dropParts (g : vS) (f : Nat) : vS := (SL_X4_dropParts_7 g f (8 + 1) 0 g)
theorem FL_X4_dropParts_7 {g : vS} {f : Nat} {c i j : Nat} (h106 : c ≠ 106) : ∀ (n : Nat) (a0 : Nat) (a1 : vS), a1 c i j = g c i j → SL_X4_dropParts_7 g f n a0 a1 c i j = g c i j := by
  intro n
  induction n with
  | zero => intro a0 a1 hq9; exact hq9
  | succ n ih =>
    intro a0 a1 hq9
    simp only [SL_X4_dropParts_7]
    (repeat' split) <;> first | rfl | exact hq9 | (apply ih; first | exact hq9 | rfl | trivial | ((simp only [s3_k h106]) <;> first | done | exact hq9 | rfl)) | ((simp only [s3_k h106]) <;> first | done | exact hq9 | rfl)
theorem F_X4_dropParts {g : vS} {f : Nat} {c i j : Nat} (h106 : c ≠ 106) : S_X4_dropParts g f c i j = g c i j := by
  unfold S_X4_dropParts
  (repeat' split) <;> first | rfl | (apply FL_X4_dropParts_7 h106; first | rfl | trivial | ((simp only [s3_k h106]) <;> first | done | rfl)) | ((simp only [s3_k h106]) <;> first | done | rfl)
set_option maxHeartbeats 4000000 in
set_option maxRecDepth 100000 in
theorem c_X4_dropParts {G : vG} (hG : G.1.stackTraces = false) {A : vN → Nat} {g : vS} {r : vH} (f : Nat) (hf : g 105 f 0 ≠ 0) : vCt G yX4_dropParts cX4_dropParts 3 (some .int) 1 [.ref (A (30, f))] A (w g r) (fun v A2 h2 => v = some (.int (V_X4_dropParts g f)) ∧ A2 = A ∧ h2 = w (S_X4_dropParts g f) r) (vNoX) 0 0 := by
  refine v_of hG (by decide +kernel) (Nat.le_of_ble_eq_true rfl) (lv := [(0, .ref (A (30, f)))]) rfl (fun X C hnx => ?_)
  have C : vC G X cX4_dropParts 3 RX4 (some .int) "dropParts" 1 0 0 := C
  refine v_aload_n (pc := 0) C dX4_dropParts_0 0 rfl rfl ?_
  refine v_callV (pc := 1) C (30, f) (ck_30 (g := g) hf) rfl (c_X4_partCount hG (f) hf) 0 wd_268 wd_80 wd_265 wd_266 wd_267 (by decide +kernel) (by decide) (by decide) rfl ([]) rfl (Nat.le_of_ble_eq_true rfl) (by decide) dX4_dropParts_1 (fun _ _ _ q => q.elim) (fun v9 A9 h9 hR9 => ?_)
  obtain ⟨rfl, hA9, rfl⟩ := hR9
  obtain rfl := hA9.symm
  refine v_st (k2 := 0) (n2 := 0) (st2 := [.int ((V_X4_partCount g (f)))]) rfl rfl rfl ?_
  refine v_istore_n (lv2 := [(1, .int ((V_X4_partCount g (f)))), (0, .ref (A (30, f)))]) (pc := 4) C dX4_dropParts_4 rfl (by decide) rfl ?_
  refine v_iconst (v := 0) (pc := 5) C dX4_dropParts_5 rfl ?_
  refine v_istore_n (lv2 := [(2, .int (0)), (1, .int ((V_X4_partCount g (f)))), (0, .ref (A (30, f)))]) (pc := 6) C dX4_dropParts_6 rfl (by decide) rfl ?_
  have L_7 : ∀ (n : Nat) (i_7 : Nat) (q_7 : vS), i_7 ≤ 8 → 8 + 1 ≤ i_7 + n → (∀ (c i j : Nat), c ≠ 106 → q_7 c i j = g c i j) → (V_X4_dropParts g f) = VL_X4_dropParts_7 g f n i_7 q_7 → (S_X4_dropParts g f) = SL_X4_dropParts_7 g f n i_7 q_7 → V G 3 X A (w q_7 r) 0 0 (vM G X (fun v A2 h2 => v = some (.int (V_X4_dropParts g f)) ∧ A2 = A ∧ h2 = w (S_X4_dropParts g f) r) (vNoX) 0 0) 7 [(2, .int (nI i_7)), (1, .int ((V_X4_partCount g (f)))), (0, .ref (A (30, f)))] [] := by
    intro n
    induction n with
    | zero => intro i_7 q_7 hi_7 hc_7 hF_7 eV_7 eS_7; exact absurd hc_7 (by omega)
    | succ n ih =>
      intro i_7 q_7 hi_7 hc_7 hF_7 eV_7 eS_7
      have hq_7 : (nI i_7).toInt = (i_7 : Int) := nI_toInt (by omega)
      have hr_7 : (nI (i_7 + 1)).toInt = ((i_7 + 1 : Nat) : Int) := nI_toInt (by omega)
      refine v_iload_n (pc := 7) C dX4_dropParts_7 0 rfl rfl ?_
      refine v_aload_n (pc := 8) C dX4_dropParts_8 2 rfl rfl ?_
      refine v_get (pc := 9) C (30, f) (v := .ref (A (31, f))) (ck_30 (g := q_7) (vtn (hF_7 _ _ _ (by decide)) hf)) rfl 8 (by decide) inX4 wd_718 rfl rfl dX4_dropParts_9 ?_
      refine v_alen (pc := 12) C (31, f) (v := 8) (ck_31 (g := q_7) (vtn (hF_7 _ _ _ (by decide)) hf)) rfl (by decide) dX4_dropParts_12 ?_
      refine v_icmp_ge (pc := 13) (tgt := 29) C dX4_dropParts_13 (by decide) (fun c_1 => ?_) (fun c_1 => ?_)
      · skip
        refine v_iload_n (pc := 29) C dX4_dropParts_29 1 rfl rfl ?_
        exact v_iret (pc := 30) C (by decide) (by decide) dX4_dropParts_30 ⟨(congrArg (fun q => some (Value.int q)) (by show _ = _; rw [eV_7, VL_X4_dropParts_7, if_pos c_1])), rfl, (congrArg (fun q => w q r) (by show _ = _; rw [eS_7, SL_X4_dropParts_7, if_pos c_1]))⟩
      · skip
        refine v_aload_n (pc := 16) C dX4_dropParts_16 2 rfl rfl ?_
        refine v_get (pc := 17) C (30, f) (v := .ref (A (31, f))) (ck_30 (g := q_7) (vtn (hF_7 _ _ _ (by decide)) hf)) rfl 8 (by decide) inX4 wd_718 rfl rfl dX4_dropParts_17 ?_
        refine v_iload_n (pc := 20) C dX4_dropParts_20 0 rfl rfl ?_
        refine v_null (pc := 21) C dX4_dropParts_21 ?_
        refine v_aastN (pc := 22) C (31, f) (ck_31 (g := q_7) (vtn (hF_7 _ _ _ (by decide)) hf)) rfl (by (try simp only [Int32.le_iff_toInt_le, Int32.lt_iff_toInt_lt, ← Int32.toInt_inj, vp_in_iff, Int32.reduceToInt] at c_1 hq_7 hr_7 ⊢) <;> omega) dX4_dropParts_22 ?_
        rw [show (nI i_7 : Int32).toNatClampNeg = i_7 from (nI_clamp (by omega))]
        refine v_less (u_31_n (g := q_7) (by simp only [Int32.le_iff_toInt_le, Int32.lt_iff_toInt_lt, ← Int32.toInt_inj, Int32.reduceToInt] at c_1 hq_7 hr_7; omega) (vtn (hF_7 _ _ _ (by decide)) hf)) ?_
        refine v_iinc (v := nI (i_7 + 1)) (lv2 := [(2, .int (nI (i_7 + 1))), (1, .int ((V_X4_partCount g (f)))), (0, .ref (A (30, f)))]) (pc := 23) C dX4_dropParts_23 0 rfl (nI_1 _) (by decide) rfl ?_
        refine v_goto (tgt := 7) (pc := 26) C dX4_dropParts_26 (by decide) ?_
        refine v_lv (lv2 := [(2, .int (nI (i_7 + 1))), (1, .int ((V_X4_partCount g (f)))), (0, .ref (A (30, f)))]) [0, 1, 2] rfl ?_
        exact ih (i_7 + 1) (s3 q_7 106 f i_7 (0)) (by (try simp only [Int32.le_iff_toInt_le, Int32.lt_iff_toInt_lt, ← Int32.toInt_inj, vp_in_iff, Int32.reduceToInt] at c_1 hq_7 hr_7 ⊢) <;> omega) (by omega) (fun c i j h106 => (s3_k h106).trans (hF_7 c i j h106)) (by rw [eV_7, VL_X4_dropParts_7, if_neg c_1]) (by rw [eS_7, SL_X4_dropParts_7, if_neg c_1])
  exact L_7 (8 + 1) 0 g (by omega) (by omega) (fun c i j h106 => rfl) (by rw [V_X4_dropParts]) (by rw [S_X4_dropParts])
def X_X11_needPart (g : vS) (a : Int32) (x : Int32) : Nat := (if (X_X11_needFile g (a)) = 0 then (if (X_X11_needPartNumber g (x)) = 0 then (if x < 0 then 1 else (if 8 ≤ x then 1 else (if (g 106 (a).toNatClampNeg (x).toNatClampNeg) = 0 then 1 else 0))) else (X_X11_needPartNumber g (x))) else (X_X11_needFile g (a)))
set_option maxHeartbeats 4000000 in
set_option maxRecDepth 100000 in
theorem c_X11_needPart {G : vG} (hG : G.1.stackTraces = false) {A : vN → Nat} {g : vS} {r : vH} (a : Int32) (x : Int32)  : vCt G yX11_needPart cX11_needPart 5 (some (.object "Vaultgarden$Part")) 1 [.ref (A (0, 0)), .int (a), .int (x)] A (w g r) (fun v A2 h2 => X_X11_needPart g a x = 0 ∧ v = some (.ref (A (32, 8 * (a).toNatClampNeg + (x).toNatClampNeg))) ∧ A2 = A ∧ h2 = w g r) (fun cls A2 h2 => X_X11_needPart g a x ≠ 0 ∧ cls = vEx (X_X11_needPart g a x) ∧ A2 = A ∧ h2 = w g r) 3 18 := by
  refine v_of hG (by decide +kernel) (Nat.le_of_ble_eq_true rfl) (lv := [(0, .ref (A (0, 0))), (1, .int (a)), (2, .int (x))]) rfl (fun X C hnx => ?_)
  have C : vC G X cX11_needPart 5 RX11 (some (.object "Vaultgarden$Part")) "needPart" 1 3 18 := C
  refine v_aload_n (pc := 0) C dX11_needPart_0 0 rfl rfl ?_
  refine v_iload_n (pc := 1) C dX11_needPart_1 1 rfl rfl ?_
  refine v_callV (pc := 2) C (0, 0) ck_0 rfl (c_X11_needFile hG (a) ) 1 wd_748 wd_62 wd_745 wd_747 wd_13 (by decide +kernel) (by decide) (by decide) rfl ([]) rfl (Nat.le_of_ble_eq_true rfl) (by decide) dX11_needPart_2 (fun cls9 A9 h9 hE9 => by obtain ⟨q9, rfl, rfl, rfl⟩ := hE9; exact v_out C hnx ⟨(by rw [show (X_X11_needPart g a x) = (X_X11_needFile g (a)) from (by rw [X_X11_needPart, if_neg q9])]; exact q9), (by rw [show (X_X11_needPart g a x) = (X_X11_needFile g (a)) from (by rw [X_X11_needPart, if_neg q9])]), rfl, rfl⟩ (by decide) (by decide)) (fun v9 A9 h9 hR9 => ?_)
  obtain ⟨x_1, rfl, hA9, rfl⟩ := hR9
  obtain rfl := hA9.symm
  refine v_st (k2 := 1) (n2 := 6) (st2 := [.ref (A (30, (a).toNatClampNeg))]) rfl rfl rfl ?_
  refine v_astore_n (lv2 := [(3, .ref (A (30, (a).toNatClampNeg))), (0, .ref (A (0, 0))), (1, .int (a)), (2, .int (x))]) (pc := 5) C dX11_needPart_5 rfl (by decide) rfl ?_
  refine v_aload_n (pc := 6) C dX11_needPart_6 1 rfl rfl ?_
  refine v_iload_n (pc := 7) C dX11_needPart_7 3 rfl rfl ?_
  refine v_callV (pc := 8) C (0, 0) ck_0 rfl (c_X11_needPartNumber hG (x) ) 1 wd_753 wd_62 wd_750 wd_752 wd_14 (by decide +kernel) (by decide) (by decide) rfl ([]) rfl (Nat.le_of_ble_eq_true rfl) (by decide) dX11_needPart_8 (fun cls9 A9 h9 hE9 => by obtain ⟨q9, rfl, rfl, rfl⟩ := hE9; exact v_out C hnx ⟨(by rw [show (X_X11_needPart g a x) = (X_X11_needPartNumber g (x)) from (by rw [X_X11_needPart, if_pos x_1, if_neg q9])]; exact q9), (by rw [show (X_X11_needPart g a x) = (X_X11_needPartNumber g (x)) from (by rw [X_X11_needPart, if_pos x_1, if_neg q9])]), rfl, rfl⟩ (by decide) (by decide)) (fun v9 A9 h9 hR9 => ?_)
  obtain ⟨x_2, rfl, hA9, rfl⟩ := hR9
  obtain rfl := hA9.symm
  refine v_st (k2 := 2) (n2 := 12) (st2 := []) rfl rfl rfl ?_
  refine v_aload_n (pc := 11) C dX11_needPart_11 0 rfl rfl ?_
  refine v_iload_n (pc := 12) C dX11_needPart_12 3 rfl rfl ?_
  refine v_callV (pc := 13) C (30, (a).toNatClampNeg) (ck_30 (g := g) (ok_needFile x_1)) rfl (c_X4_partAt hG ((a).toNatClampNeg) (x) (ok_needFile x_1)) 1 wd_321 wd_80 wd_318 wd_319 wd_320 (by decide +kernel) (by decide) (by decide) rfl ([]) rfl (Nat.le_of_ble_eq_true rfl) (by decide) dX11_needPart_13 (fun _ _ _ q => q.elim) (fun v9 A9 h9 hR9 => ?_)
  obtain ⟨rfl, hA9, rfl⟩ := hR9
  obtain rfl := hA9.symm
  rcases Classical.em (x < 0) with c_3 | c_3
  · skip
    refine v_st (k2 := 2) (n2 := 12) (st2 := [.null]) rfl rfl (by show vRq A (Q_X4_partAt g ((a).toNatClampNeg) (x)) :: _ = _; rw [Q_X4_partAt]; rw [if_pos c_3]; rfl) ?_
    refine v_astoreN (lv2 := [(4, .null), (3, .ref (A (30, (a).toNatClampNeg))), (0, .ref (A (0, 0))), (1, .int (a)), (2, .int (x))]) (pc := 16) C dX11_needPart_16 (by decide) rfl ?_
    refine v_aloadN (pc := 18) C dX11_needPart_18 0 rfl ?_
    refine v_ifnonnullN (pc := 20) C dX11_needPart_20 ?_
    exact vn_throwW (pc := 23) C hnx (text := "the part is not there") wd_514 wd_76 (by decide +kernel) at_NoSuchElementException (by decide) (by decide) (by decide) dX11_needPart_23 dX11_needPart_26 dX11_needPart_27 dX11_needPart_30 dX11_needPart_33 ⟨by rw [show (X_X11_needPart g a x) = 1 from (by rw [X_X11_needPart, if_pos x_1, if_pos x_2, if_pos c_3])]; decide, by rw [show (X_X11_needPart g a x) = 1 from (by rw [X_X11_needPart, if_pos x_1, if_pos x_2, if_pos c_3])]; rfl, rfl, rfl⟩
  · skip
    rcases Classical.em (8 ≤ x) with c_4 | c_4
    · skip
      refine v_st (k2 := 2) (n2 := 12) (st2 := [.null]) rfl rfl (by show vRq A (Q_X4_partAt g ((a).toNatClampNeg) (x)) :: _ = _; rw [Q_X4_partAt]; rw [if_neg c_3, if_pos c_4]; rfl) ?_
      refine v_astoreN (lv2 := [(4, .null), (3, .ref (A (30, (a).toNatClampNeg))), (0, .ref (A (0, 0))), (1, .int (a)), (2, .int (x))]) (pc := 16) C dX11_needPart_16 (by decide) rfl ?_
      refine v_aloadN (pc := 18) C dX11_needPart_18 0 rfl ?_
      refine v_ifnonnullN (pc := 20) C dX11_needPart_20 ?_
      exact vn_throwW (pc := 23) C hnx (text := "the part is not there") wd_514 wd_76 (by decide +kernel) at_NoSuchElementException (by decide) (by decide) (by decide) dX11_needPart_23 dX11_needPart_26 dX11_needPart_27 dX11_needPart_30 dX11_needPart_33 ⟨by rw [show (X_X11_needPart g a x) = 1 from (by rw [X_X11_needPart, if_pos x_1, if_pos x_2, if_neg c_3, if_pos c_4])]; decide, by rw [show (X_X11_needPart g a x) = 1 from (by rw [X_X11_needPart, if_pos x_1, if_pos x_2, if_neg c_3, if_pos c_4])]; rfl, rfl, rfl⟩
    · skip
      rcases Classical.em ((g 106 (a).toNatClampNeg (x).toNatClampNeg) = 0) with c_5 | c_5
      · skip
        refine v_st (k2 := 2) (n2 := 12) (st2 := [.null]) rfl rfl (by show vRq A (Q_X4_partAt g ((a).toNatClampNeg) (x)) :: _ = _; rw [Q_X4_partAt]; rw [if_neg c_3, if_neg c_4, if_pos c_5]; rfl) ?_
        refine v_astoreN (lv2 := [(4, .null), (3, .ref (A (30, (a).toNatClampNeg))), (0, .ref (A (0, 0))), (1, .int (a)), (2, .int (x))]) (pc := 16) C dX11_needPart_16 (by decide) rfl ?_
        refine v_aloadN (pc := 18) C dX11_needPart_18 0 rfl ?_
        refine v_ifnonnullN (pc := 20) C dX11_needPart_20 ?_
        exact vn_throwW (pc := 23) C hnx (text := "the part is not there") wd_514 wd_76 (by decide +kernel) at_NoSuchElementException (by decide) (by decide) (by decide) dX11_needPart_23 dX11_needPart_26 dX11_needPart_27 dX11_needPart_30 dX11_needPart_33 ⟨by rw [show (X_X11_needPart g a x) = 1 from (by rw [X_X11_needPart, if_pos x_1, if_pos x_2, if_neg c_3, if_neg c_4, if_pos c_5])]; decide, by rw [show (X_X11_needPart g a x) = 1 from (by rw [X_X11_needPart, if_pos x_1, if_pos x_2, if_neg c_3, if_neg c_4, if_pos c_5])]; rfl, rfl, rfl⟩
      · skip
        refine v_st (k2 := 2) (n2 := 12) (st2 := [.ref (A (32, 8 * (a).toNatClampNeg + (x).toNatClampNeg))]) rfl rfl (by show vRq A (Q_X4_partAt g ((a).toNatClampNeg) (x)) :: _ = _; rw [Q_X4_partAt]; rw [if_neg c_3, if_neg c_4, if_neg c_5]; rfl) ?_
        refine v_astore (lv2 := [(4, .ref (A (32, 8 * (a).toNatClampNeg + (x).toNatClampNeg))), (3, .ref (A (30, (a).toNatClampNeg))), (0, .ref (A (0, 0))), (1, .int (a)), (2, .int (x))]) (pc := 16) C dX11_needPart_16 (by decide) rfl ?_
        refine v_aload (pc := 18) C dX11_needPart_18 0 rfl ?_
        refine v_ifnonnull (tgt := 34) (pc := 20) C dX11_needPart_20 (by decide) ?_
        refine v_aload (pc := 34) C dX11_needPart_34 0 rfl ?_
        exact v_aret (pc := 36) C (Or.inl ⟨_, rfl⟩) (Or.inr ⟨_, rfl⟩) (by decide) (by decide) dX11_needPart_36 ⟨(by rw [X_X11_needPart, if_pos x_1, if_pos x_2, if_neg c_3, if_neg c_4, if_neg c_5]), rfl, rfl, rfl⟩
theorem ok_needPart {g : vS} {a x : Int32} (h : X_X11_needPart g a x = 0) : (x).toNatClampNeg < 8 ∧ g 106 (a).toNatClampNeg (x).toNatClampNeg ≠ 0 := by
  revert h
  unfold X_X11_needPart
  (repeat' split) <;> first | (intro h; exact absurd h (by decide)) | (intro h; exact absurd h (by assumption)) | (intro _; exact ⟨tn_lt (by simp only [Int32.le_iff_toInt_le, Int32.lt_iff_toInt_lt, Int32.reduceToInt] at *; omega), by assumption⟩)
def V_X11_isKeyKnown (g : vS) (u : Int32) (f : Nat) (p : Nat) : Int32 := (if (V_X3_latestKnownTo g (((g 50 f 0)).toNatClampNeg) (u)) < (g 65 f p) then 0 else 1)
theorem B_X11_isKeyKnown {g : vS} {u : Int32} {f : Nat} {p : Nat} : V_X11_isKeyKnown g u f p = 0 ∨ V_X11_isKeyKnown g u f p = 1 := by
  unfold V_X11_isKeyKnown
  (repeat' split) <;> first | exact Or.inl rfl | exact Or.inr rfl
set_option maxHeartbeats 4000000 in
set_option maxRecDepth 100000 in
theorem c_X11_isKeyKnown {G : vG} (hG : G.1.stackTraces = false) {A : vN → Nat} {g : vS} {r : vH} (u : Int32) (f : Nat) (p : Nat) (hf : g 105 f 0 ≠ 0) (hp : p < 8) (he : g 106 f p ≠ 0) (hI : vI1 g) : vCt G yX11_isKeyKnown cX11_isKeyKnown 4 (some .boolean) 2 [.ref (A (0, 0)), .int (u), .ref (A (30, f)), .ref (A (32, 8 * f + p))] A (w g r) (fun v A2 h2 => v = some (.int (V_X11_isKeyKnown g u f p)) ∧ A2 = A ∧ h2 = w g r) (vNoX) 0 0 := by
  refine v_of hG (by decide +kernel) (Nat.le_of_ble_eq_true rfl) (lv := [(0, .ref (A (0, 0))), (1, .int (u)), (2, .ref (A (30, f))), (3, .ref (A (32, 8 * f + p)))]) rfl (fun X C hnx => ?_)
  have C : vC G X cX11_isKeyKnown 4 RX11 (some .boolean) "isKeyKnown" 2 0 0 := C
  refine v_aload_n (pc := 0) C dX11_isKeyKnown_0 3 rfl rfl ?_
  refine v_get (pc := 1) C (32, 8 * f + p) (v := .int ((g 65 f p))) (ck_32 (g := g) hp he) rfl 5 (by decide) inX6 wd_790 rfl rfl dX11_isKeyKnown_1 ?_
  refine v_aload_n (pc := 4) C dX11_isKeyKnown_4 2 rfl rfl ?_
  refine v_get (pc := 5) C (30, f) (v := .ref (A (27, ((g 50 f 0)).toNatClampNeg))) (ck_30 (g := g) hf) rfl 1 (by decide) inX4 wd_709 rfl rfl dX11_isKeyKnown_5 ?_
  refine v_iload_n (pc := 8) C dX11_isKeyKnown_8 1 rfl rfl ?_
  refine v_callV (pc := 9) C (27, ((g 50 f 0)).toNatClampNeg) (ck_27 (g := g) (hI f hf)) rfl (c_X3_latestKnownTo hG (((g 50 f 0)).toNatClampNeg) (u) (hI f hf)) 1 wd_345 wd_77 wd_342 wd_343 wd_344 (by decide +kernel) (by decide) (by decide) rfl ([.int ((g 65 f p))]) rfl (Nat.le_of_ble_eq_true rfl) (by decide) dX11_isKeyKnown_9 (fun _ _ _ q => q.elim) (fun v9 A9 h9 hR9 => ?_)
  obtain ⟨rfl, hA9, rfl⟩ := hR9
  obtain rfl := hA9.symm
  refine v_st (k2 := 0) (n2 := 0) (st2 := [.int ((V_X3_latestKnownTo g (((g 50 f 0)).toNatClampNeg) (u))), .int ((g 65 f p))]) rfl rfl rfl ?_
  refine v_icmp_gt (pc := 12) (tgt := 19) C dX11_isKeyKnown_12 (by decide) (fun c_1 => ?_) (fun c_1 => ?_)
  · skip
    refine v_iconst (v := 0) (pc := 19) C dX11_isKeyKnown_19 rfl ?_
    exact v_zret (pc := 20) C rfl (by decide) (by decide) dX11_isKeyKnown_20 ⟨(congrArg (fun q => some (Value.int q)) (by show _ = _; rw [V_X11_isKeyKnown, if_pos c_1])), rfl, rfl⟩
  · skip
    refine v_iconst (v := 1) (pc := 15) C dX11_isKeyKnown_15 rfl ?_
    refine v_goto (tgt := 20) (pc := 16) C dX11_isKeyKnown_16 (by decide) ?_
    exact v_zret (pc := 20) C rfl (by decide) (by decide) dX11_isKeyKnown_20 ⟨(congrArg (fun q => some (Value.int q)) (by show _ = _; rw [V_X11_isKeyKnown, if_neg c_1])), rfl, rfl⟩
def V_X11_isHeadInLog (g : vS) (u : Nat) : Int32 := (if (V_X5_count g) < (g 22 u 0) then 0 else (if (V_X5_rootOf g ((g 22 u 0))) = (g 23 u 0) then 1 else 0))
theorem B_X11_isHeadInLog {g : vS} {u : Nat} : V_X11_isHeadInLog g u = 0 ∨ V_X11_isHeadInLog g u = 1 := by
  unfold V_X11_isHeadInLog
  (repeat' split) <;> first | exact Or.inl rfl | exact Or.inr rfl
set_option maxHeartbeats 4000000 in
set_option maxRecDepth 100000 in
theorem c_X11_isHeadInLog {G : vG} (hG : G.1.stackTraces = false) {A : vN → Nat} {g : vS} {r : vH} (u : Nat) (hu : g 103 u 0 ≠ 0) : vCt G yX11_isHeadInLog cX11_isHeadInLog 2 (some .boolean) 17 [.ref (A (0, 0)), .ref (A (22, u))] A (w g r) (fun v A2 h2 => v = some (.int (V_X11_isHeadInLog g u)) ∧ A2 = A ∧ h2 = w g r) (vNoX) 0 0 := by
  refine v_of hG (by decide +kernel) (Nat.le_of_ble_eq_true rfl) (lv := [(0, .ref (A (0, 0))), (1, .ref (A (22, u)))]) rfl (fun X C hnx => ?_)
  have C : vC G X cX11_isHeadInLog 2 RX11 (some .boolean) "isHeadInLog" 17 0 0 := C
  refine v_aload_n (pc := 0) C dX11_isHeadInLog_0 1 rfl rfl ?_
  refine v_get (pc := 1) C (22, u) (v := .int ((g 22 u 0))) (ck_22 (g := g) hu) rfl 4 (by decide) inX9 wd_478 rfl rfl dX11_isHeadInLog_1 ?_
  refine v_aload_n (pc := 4) C dX11_isHeadInLog_4 0 rfl rfl ?_
  refine v_get (pc := 5) C (0, 0) (v := .ref (A (4, 0))) ck_0 rfl 3 (by decide) inX11 wd_223 rfl rfl dX11_isHeadInLog_5 ?_
  refine v_callV (pc := 8) C (4, 0) ck_4 rfl (c_X5_count hG  ) 0 wd_276 wd_63 wd_273 wd_274 wd_275 (by decide +kernel) (by decide) (by decide) rfl ([.int ((g 22 u 0))]) rfl (Nat.le_of_ble_eq_true rfl) (by decide) dX11_isHeadInLog_8 (fun _ _ _ q => q.elim) (fun v9 A9 h9 hR9 => ?_)
  obtain ⟨rfl, hA9, rfl⟩ := hR9
  obtain rfl := hA9.symm
  refine v_st (k2 := 0) (n2 := 0) (st2 := [.int ((V_X5_count g)), .int ((g 22 u 0))]) rfl rfl rfl ?_
  refine v_icmp_gt (pc := 11) (tgt := 36) C dX11_isHeadInLog_11 (by decide) (fun c_1 => ?_) (fun c_1 => ?_)
  · skip
    refine v_iconst (v := 0) (pc := 36) C dX11_isHeadInLog_36 rfl ?_
    exact v_zret (pc := 37) C rfl (by decide) (by decide) dX11_isHeadInLog_37 ⟨(congrArg (fun q => some (Value.int q)) (by show _ = _; rw [V_X11_isHeadInLog, if_pos c_1])), rfl, rfl⟩
  · skip
    refine v_aload_n (pc := 14) C dX11_isHeadInLog_14 0 rfl rfl ?_
    refine v_get (pc := 15) C (0, 0) (v := .ref (A (4, 0))) ck_0 rfl 3 (by decide) inX11 wd_223 rfl rfl dX11_isHeadInLog_15 ?_
    refine v_aload_n (pc := 18) C dX11_isHeadInLog_18 1 rfl rfl ?_
    refine v_get (pc := 19) C (22, u) (v := .int ((g 22 u 0))) (ck_22 (g := g) hu) rfl 4 (by decide) inX9 wd_478 rfl rfl dX11_isHeadInLog_19 ?_
    refine v_callV (pc := 22) C (4, 0) ck_4 rfl (c_X5_rootOf hG ((g 22 u 0)) ) 1 wd_1054 wd_63 wd_1051 wd_1052 wd_1053 (by decide +kernel) (by decide) (by decide) rfl ([]) rfl (Nat.le_of_ble_eq_true rfl) (by decide) dX11_isHeadInLog_22 (fun _ _ _ q => q.elim) (fun v9 A9 h9 hR9 => ?_)
    obtain ⟨rfl, hA9, rfl⟩ := hR9
    obtain rfl := hA9.symm
    refine v_st (k2 := 0) (n2 := 0) (st2 := [.int ((V_X5_rootOf g ((g 22 u 0))))]) rfl rfl rfl ?_
    refine v_aload_n (pc := 25) C dX11_isHeadInLog_25 1 rfl rfl ?_
    refine v_get (pc := 26) C (22, u) (v := .int ((g 23 u 0))) (ck_22 (g := g) hu) rfl 5 (by decide) inX9 wd_479 rfl rfl dX11_isHeadInLog_26 ?_
    refine v_icmp_ne (pc := 29) (tgt := 36) C dX11_isHeadInLog_29 (by decide) (fun c_2 => ?_) (fun c_2 => ?_)
    · skip
      refine v_iconst (v := 0) (pc := 36) C dX11_isHeadInLog_36 rfl ?_
      exact v_zret (pc := 37) C rfl (by decide) (by decide) dX11_isHeadInLog_37 ⟨(congrArg (fun q => some (Value.int q)) (by show _ = _; rw [V_X11_isHeadInLog, if_neg c_1, if_neg c_2])), rfl, rfl⟩
    · skip
      refine v_iconst (v := 1) (pc := 32) C dX11_isHeadInLog_32 rfl ?_
      refine v_goto (tgt := 37) (pc := 33) C dX11_isHeadInLog_33 (by decide) ?_
      exact v_zret (pc := 37) C rfl (by decide) (by decide) dX11_isHeadInLog_37 ⟨(congrArg (fun q => some (Value.int q)) (by show _ = _; rw [V_X11_isHeadInLog, if_neg c_1, if_pos c_2])), rfl, rfl⟩
def VL_X11_partsOf_4 (g : vS) (gi : Nat) : Nat → Nat → Int32 → Int32
  | 0, _, _ => 0
  | n + 1, i_4, x_4_2 => (if (g 2 0 0) ≤ nI i_4 then x_4_2 else (if 20 ≤ nI i_4 then x_4_2 else (if (g 105 i_4 0) = 0 then (VL_X11_partsOf_4 g gi n (i_4 + 1) (x_4_2)) else (if (g 48 ((g 50 i_4 0)).toNatClampNeg 0) = (g 48 gi 0) then (VL_X11_partsOf_4 g gi n (i_4 + 1) ((x_4_2 + (V_X4_partCount g (i_4))))) else (VL_X11_partsOf_4 g gi n (i_4 + 1) (x_4_2))))))
def V_X11_partsOf (g : vS) (gi : Nat) : Int32 := (VL_X11_partsOf_4 g gi (20 + 1) 0 (0))
set_option maxHeartbeats 4000000 in
set_option maxRecDepth 100000 in
theorem c_X11_partsOf {G : vG} (hG : G.1.stackTraces = false) {A : vN → Nat} {g : vS} {r : vH} (gi : Nat) (hg : g 104 gi 0 ≠ 0) (hI : vI1 g) : vCt G yX11_partsOf cX11_partsOf 5 (some .int) 1 [.ref (A (0, 0)), .ref (A (27, gi))] A (w g r) (fun v A2 h2 => v = some (.int (V_X11_partsOf g gi)) ∧ A2 = A ∧ h2 = w g r) (vNoX) 0 0 := by
  refine v_of hG (by decide +kernel) (Nat.le_of_ble_eq_true rfl) (lv := [(0, .ref (A (0, 0))), (1, .ref (A (27, gi)))]) rfl (fun X C hnx => ?_)
  have C : vC G X cX11_partsOf 5 RX11 (some .int) "partsOf" 1 0 0 := C
  refine v_iconst (v := 0) (pc := 0) C dX11_partsOf_0 rfl ?_
  refine v_istore_n (lv2 := [(2, .int (0)), (0, .ref (A (0, 0))), (1, .ref (A (27, gi)))]) (pc := 1) C dX11_partsOf_1 rfl (by decide) rfl ?_
  refine v_iconst (v := 0) (pc := 2) C dX11_partsOf_2 rfl ?_
  refine v_istore_n (lv2 := [(3, .int (0)), (2, .int (0)), (0, .ref (A (0, 0))), (1, .ref (A (27, gi)))]) (pc := 3) C dX11_partsOf_3 rfl (by decide) rfl ?_
  have L_4 : ∀ (n : Nat) (i_4 : Nat) (x_4_2 : Int32), i_4 ≤ 20 → 20 + 1 ≤ i_4 + n → (V_X11_partsOf g gi) = VL_X11_partsOf_4 g gi n i_4 x_4_2 → V G 5 X A (w g r) 0 0 (vM G X (fun v A2 h2 => v = some (.int (V_X11_partsOf g gi)) ∧ A2 = A ∧ h2 = w g r) (vNoX) 0 0) 4 [(3, .int (nI i_4)), (2, .int (x_4_2)), (0, .ref (A (0, 0))), (1, .ref (A (27, gi)))] [] := by
    intro n
    induction n with
    | zero => intro i_4 x_4_2 hi_4 hc_4 eV_4; exact absurd hc_4 (by omega)
    | succ n ih =>
      intro i_4 x_4_2 hi_4 hc_4 eV_4
      have hq_4 : (nI i_4).toInt = (i_4 : Int) := nI_toInt (by omega)
      have hr_4 : (nI (i_4 + 1)).toInt = ((i_4 + 1 : Nat) : Int) := nI_toInt (by omega)
      refine v_iload_n (pc := 4) C dX11_partsOf_4 0 rfl rfl ?_
      refine v_aload_n (pc := 5) C dX11_partsOf_5 2 rfl rfl ?_
      refine v_get (pc := 6) C (0, 0) (v := .int ((g 2 0 0))) ck_0 rfl 10 (by decide) inX11 wd_230 rfl rfl dX11_partsOf_6 ?_
      refine v_icmp_ge (pc := 9) (tgt := 63) C dX11_partsOf_9 (by decide) (fun c_1 => ?_) (fun c_1 => ?_)
      · skip
        refine v_iload_n (pc := 63) C dX11_partsOf_63 1 rfl rfl ?_
        exact v_iret (pc := 64) C (by decide) (by decide) dX11_partsOf_64 ⟨(congrArg (fun q => some (Value.int q)) (by show _ = _; rw [eV_4, VL_X11_partsOf_4, if_pos c_1])), rfl, rfl⟩
      · skip
        refine v_iload_n (pc := 12) C dX11_partsOf_12 0 rfl rfl ?_
        refine v_aload_n (pc := 13) C dX11_partsOf_13 2 rfl rfl ?_
        refine v_get (pc := 14) C (0, 0) (v := .ref (A (3, 0))) ck_0 rfl 2 (by decide) inX11 wd_222 rfl rfl dX11_partsOf_14 ?_
        refine v_alen (pc := 17) C (3, 0) (v := 20) ck_3 rfl (by decide) dX11_partsOf_17 ?_
        refine v_icmp_ge (pc := 18) (tgt := 63) C dX11_partsOf_18 (by decide) (fun c_2 => ?_) (fun c_2 => ?_)
        · skip
          refine v_iload_n (pc := 63) C dX11_partsOf_63 1 rfl rfl ?_
          exact v_iret (pc := 64) C (by decide) (by decide) dX11_partsOf_64 ⟨(congrArg (fun q => some (Value.int q)) (by show _ = _; rw [eV_4, VL_X11_partsOf_4, if_neg c_1, if_pos c_2])), rfl, rfl⟩
        · skip
          refine v_aload_n (pc := 21) C dX11_partsOf_21 2 rfl rfl ?_
          refine v_get (pc := 22) C (0, 0) (v := .ref (A (3, 0))) ck_0 rfl 2 (by decide) inX11 wd_222 rfl rfl dX11_partsOf_22 ?_
          refine v_iload_n (pc := 25) C dX11_partsOf_25 0 rfl rfl ?_
          rcases Classical.em ((g 105 i_4 0) = 0) with c_3 | c_3
          · skip
            refine v_aaldN (pc := 26) C (3, 0) ck_3 rfl rfl (by (try simp only [Int32.le_iff_toInt_le, Int32.lt_iff_toInt_lt, ← Int32.toInt_inj, vp_in_iff, Int32.reduceToInt] at c_1 c_2 hq_4 hr_4 ⊢) <;> omega) ((congrArg (fun k => if g 105 k 0 = 0 then none else some (30, k)) (show (nI i_4 : Int32).toNatClampNeg = i_4 from (nI_clamp (by omega)))).trans ((if_pos c_3 : (fun k => if g 105 k 0 = 0 then none else some (30, k)) i_4 = none))) dX11_partsOf_26 ?_
            refine v_astoreN (lv2 := [(4, .null), (3, .int (nI i_4)), (2, .int (x_4_2)), (0, .ref (A (0, 0))), (1, .ref (A (27, gi)))]) (pc := 27) C dX11_partsOf_27 (by decide) rfl ?_
            refine v_aloadN (pc := 29) C dX11_partsOf_29 0 rfl ?_
            refine v_ifnullN (tgt := 57) (pc := 31) C dX11_partsOf_31 (by decide) ?_
            refine v_iinc (v := nI (i_4 + 1)) (lv2 := [(3, .int (nI (i_4 + 1))), (4, .null), (2, .int (x_4_2)), (0, .ref (A (0, 0))), (1, .ref (A (27, gi)))]) (pc := 57) C dX11_partsOf_57 1 rfl (nI_1 _) (by decide) rfl ?_
            refine v_goto (tgt := 4) (pc := 60) C dX11_partsOf_60 (by decide) ?_
            refine v_lv (lv2 := [(3, .int (nI (i_4 + 1))), (2, .int (x_4_2)), (0, .ref (A (0, 0))), (1, .ref (A (27, gi)))]) [0, 2, 3, 4] rfl ?_
            exact ih (i_4 + 1) (x_4_2) (by (try simp only [Int32.le_iff_toInt_le, Int32.lt_iff_toInt_lt, ← Int32.toInt_inj, vp_in_iff, Int32.reduceToInt] at c_1 c_2 c_3 hq_4 hr_4 ⊢) <;> omega) (by omega)  (by rw [eV_4, VL_X11_partsOf_4, if_neg c_1, if_neg c_2, if_pos c_3])
          · skip
            refine v_aald (pc := 26) C (3, 0) ck_3 rfl rfl (by (try simp only [Int32.le_iff_toInt_le, Int32.lt_iff_toInt_lt, ← Int32.toInt_inj, vp_in_iff, Int32.reduceToInt] at c_1 c_2 hq_4 hr_4 ⊢) <;> omega) (30, i_4) ((congrArg (fun k => if g 105 k 0 = 0 then none else some (30, k)) (show (nI i_4 : Int32).toNatClampNeg = i_4 from (nI_clamp (by omega)))).trans ((if_neg c_3 : (fun k => if g 105 k 0 = 0 then none else some (30, k)) i_4 = some (30, i_4)))) dX11_partsOf_26 ?_
            refine v_astore (lv2 := [(4, .ref (A (30, i_4))), (3, .int (nI i_4)), (2, .int (x_4_2)), (0, .ref (A (0, 0))), (1, .ref (A (27, gi)))]) (pc := 27) C dX11_partsOf_27 (by decide) rfl ?_
            refine v_aload (pc := 29) C dX11_partsOf_29 0 rfl ?_
            refine v_ifnull (pc := 31) C dX11_partsOf_31 ?_
            refine v_aload (pc := 34) C dX11_partsOf_34 0 rfl ?_
            refine v_get (pc := 36) C (30, i_4) (v := .ref (A (27, ((g 50 i_4 0)).toNatClampNeg))) (ck_30 (g := g) c_3) rfl 1 (by decide) inX4 wd_709 rfl rfl dX11_partsOf_36 ?_
            refine v_get (pc := 39) C (27, ((g 50 i_4 0)).toNatClampNeg) (v := .int ((g 48 ((g 50 i_4 0)).toNatClampNeg 0))) (ck_27 (g := g) (hI i_4 c_3)) rfl 0 (by decide) inX3 wd_539 rfl rfl dX11_partsOf_39 ?_
            refine v_aload_n (pc := 42) C dX11_partsOf_42 4 rfl rfl ?_
            refine v_get (pc := 43) C (27, gi) (v := .int ((g 48 gi 0))) (ck_27 (g := g) hg) rfl 0 (by decide) inX3 wd_539 rfl rfl dX11_partsOf_43 ?_
            refine v_icmp_ne (pc := 46) (tgt := 57) C dX11_partsOf_46 (by decide) (fun c_4 => ?_) (fun c_4 => ?_)
            · skip
              refine v_iinc (v := nI (i_4 + 1)) (lv2 := [(3, .int (nI (i_4 + 1))), (4, .ref (A (30, i_4))), (2, .int (x_4_2)), (0, .ref (A (0, 0))), (1, .ref (A (27, gi)))]) (pc := 57) C dX11_partsOf_57 1 rfl (nI_1 _) (by decide) rfl ?_
              refine v_goto (tgt := 4) (pc := 60) C dX11_partsOf_60 (by decide) ?_
              refine v_lv (lv2 := [(3, .int (nI (i_4 + 1))), (2, .int (x_4_2)), (0, .ref (A (0, 0))), (1, .ref (A (27, gi)))]) [0, 2, 3, 4] rfl ?_
              exact ih (i_4 + 1) (x_4_2) (by (try simp only [Int32.le_iff_toInt_le, Int32.lt_iff_toInt_lt, ← Int32.toInt_inj, vp_in_iff, Int32.reduceToInt] at c_1 c_2 c_3 c_4 hq_4 hr_4 ⊢) <;> omega) (by omega)  (by rw [eV_4, VL_X11_partsOf_4, if_neg c_1, if_neg c_2, if_neg c_3, if_neg c_4])
            · skip
              refine v_iload_n (pc := 49) C dX11_partsOf_49 2 rfl rfl ?_
              refine v_aload (pc := 50) C dX11_partsOf_50 0 rfl ?_
              refine v_callV (pc := 52) C (30, i_4) (ck_30 (g := g) c_3) rfl (c_X4_partCount hG (i_4) c_3) 0 wd_268 wd_80 wd_763 wd_266 wd_267 (by decide +kernel) (by decide) (by decide) rfl ([.int (x_4_2)]) rfl (Nat.le_of_ble_eq_true rfl) (by decide) dX11_partsOf_52 (fun _ _ _ q => q.elim) (fun v9 A9 h9 hR9 => ?_)
              obtain ⟨rfl, hA9, rfl⟩ := hR9
              obtain rfl := hA9.symm
              refine v_st (k2 := 0) (n2 := 0) (st2 := [.int ((V_X4_partCount g (i_4))), .int (x_4_2)]) rfl rfl rfl ?_
              refine v_iadd (pc := 55) C dX11_partsOf_55 ?_
              refine v_istore_n (lv2 := [(2, .int ((x_4_2 + (V_X4_partCount g (i_4))))), (4, .ref (A (30, i_4))), (3, .int (nI i_4)), (0, .ref (A (0, 0))), (1, .ref (A (27, gi)))]) (pc := 56) C dX11_partsOf_56 rfl (by decide) rfl ?_
              refine v_iinc (v := nI (i_4 + 1)) (lv2 := [(3, .int (nI (i_4 + 1))), (2, .int ((x_4_2 + (V_X4_partCount g (i_4))))), (4, .ref (A (30, i_4))), (0, .ref (A (0, 0))), (1, .ref (A (27, gi)))]) (pc := 57) C dX11_partsOf_57 2 rfl (nI_1 _) (by decide) rfl ?_
              refine v_goto (tgt := 4) (pc := 60) C dX11_partsOf_60 (by decide) ?_
              refine v_lv (lv2 := [(3, .int (nI (i_4 + 1))), (2, .int ((x_4_2 + (V_X4_partCount g (i_4))))), (0, .ref (A (0, 0))), (1, .ref (A (27, gi)))]) [0, 1, 3, 4] rfl ?_
              exact ih (i_4 + 1) ((x_4_2 + (V_X4_partCount g (i_4)))) (by (try simp only [Int32.le_iff_toInt_le, Int32.lt_iff_toInt_lt, ← Int32.toInt_inj, vp_in_iff, Int32.reduceToInt] at c_1 c_2 c_3 c_4 hq_4 hr_4 ⊢) <;> omega) (by omega)  (by rw [eV_4, VL_X11_partsOf_4, if_neg c_1, if_neg c_2, if_neg c_3, if_pos c_4])
  exact L_4 (20 + 1) 0 (0) (by omega) (by omega)  (by rw [V_X11_partsOf])
def V_X11_isOpenForWriting (g : vS) (f : Nat) (x : Int32) : Int32 := (if (g 53 f 0) = 0 then (if (V_X4_isSpoiled g (f)) = 0 then (if (V_X5_isFull g) = 0 then (if x < 0 then (if (g 41 ((g 50 f 0)).toNatClampNeg 0) ≤ (V_X11_partsOf g (((g 50 f 0)).toNatClampNeg)) then 0 else 1) else (if 8 ≤ x then (if (g 41 ((g 50 f 0)).toNatClampNeg 0) ≤ (V_X11_partsOf g (((g 50 f 0)).toNatClampNeg)) then 0 else 1) else (if (g 106 f (x).toNatClampNeg) = 0 then (if (g 41 ((g 50 f 0)).toNatClampNeg 0) ≤ (V_X11_partsOf g (((g 50 f 0)).toNatClampNeg)) then 0 else 1) else 1))) else 0) else 0) else 0)
theorem B_X11_isOpenForWriting {g : vS} {f : Nat} {x : Int32} : V_X11_isOpenForWriting g f x = 0 ∨ V_X11_isOpenForWriting g f x = 1 := by
  unfold V_X11_isOpenForWriting
  (repeat' split) <;> first | exact Or.inl rfl | exact Or.inr rfl
set_option maxHeartbeats 4000000 in
set_option maxRecDepth 100000 in
theorem c_X11_isOpenForWriting {G : vG} (hG : G.1.stackTraces = false) {A : vN → Nat} {g : vS} {r : vH} (f : Nat) (x : Int32) (hf : g 105 f 0 ≠ 0) (hI : vI1 g) : vCt G yX11_isOpenForWriting cX11_isOpenForWriting 3 (some .boolean) 4 [.ref (A (0, 0)), .ref (A (30, f)), .int (x)] A (w g r) (fun v A2 h2 => v = some (.int (V_X11_isOpenForWriting g f x)) ∧ A2 = A ∧ h2 = w g r) (vNoX) 0 0 := by
  refine v_of hG (by decide +kernel) (Nat.le_of_ble_eq_true rfl) (lv := [(0, .ref (A (0, 0))), (1, .ref (A (30, f))), (2, .int (x))]) rfl (fun X C hnx => ?_)
  have C : vC G X cX11_isOpenForWriting 3 RX11 (some .boolean) "isOpenForWriting" 4 0 0 := C
  refine v_aload_n (pc := 0) C dX11_isOpenForWriting_0 1 rfl rfl ?_
  refine v_get (pc := 1) C (30, f) (v := .int ((g 53 f 0))) (ck_30 (g := g) hf) rfl 5 (by decide) inX4 wd_715 rfl rfl dX11_isOpenForWriting_1 ?_
  refine v_if_ne (pc := 4) (tgt := 24) C dX11_isOpenForWriting_4 (by decide) (fun c_1 => ?_) (fun c_1 => ?_)
  · skip
    refine v_iconst (v := 0) (pc := 24) C dX11_isOpenForWriting_24 rfl ?_
    exact v_zret (pc := 25) C rfl (by decide) (by decide) dX11_isOpenForWriting_25 ⟨(congrArg (fun q => some (Value.int q)) (by show _ = _; rw [V_X11_isOpenForWriting, if_neg c_1])), rfl, rfl⟩
  · skip
    refine v_aload_n (pc := 7) C dX11_isOpenForWriting_7 1 rfl rfl ?_
    refine v_callV (pc := 8) C (30, f) (ck_30 (g := g) hf) rfl (c_X4_isSpoiled hG (f) hf) 0 wd_305 wd_80 wd_302 wd_303 wd_304 (by decide +kernel) (by decide) (by decide) rfl ([]) rfl (Nat.le_of_ble_eq_true rfl) (by decide) dX11_isOpenForWriting_8 (fun _ _ _ q => q.elim) (fun v9 A9 h9 hR9 => ?_)
    obtain ⟨rfl, hA9, rfl⟩ := hR9
    obtain rfl := hA9.symm
    refine v_st (k2 := 0) (n2 := 0) (st2 := [.int ((V_X4_isSpoiled g (f)))]) rfl rfl rfl ?_
    refine v_if_ne (pc := 11) (tgt := 24) C dX11_isOpenForWriting_11 (by decide) (fun c_2 => ?_) (fun c_2 => ?_)
    · skip
      refine v_iconst (v := 0) (pc := 24) C dX11_isOpenForWriting_24 rfl ?_
      exact v_zret (pc := 25) C rfl (by decide) (by decide) dX11_isOpenForWriting_25 ⟨(congrArg (fun q => some (Value.int q)) (by show _ = _; rw [V_X11_isOpenForWriting, if_pos c_1, if_neg c_2])), rfl, rfl⟩
    · skip
      refine v_aload_n (pc := 14) C dX11_isOpenForWriting_14 0 rfl rfl ?_
      refine v_get (pc := 15) C (0, 0) (v := .ref (A (4, 0))) ck_0 rfl 3 (by decide) inX11 wd_223 rfl rfl dX11_isOpenForWriting_15 ?_
      refine v_callV (pc := 18) C (4, 0) ck_4 rfl (c_X5_isFull hG  ) 0 wd_602 wd_63 wd_599 wd_600 wd_601 (by decide +kernel) (by decide) (by decide) rfl ([]) rfl (Nat.le_of_ble_eq_true rfl) (by decide) dX11_isOpenForWriting_18 (fun _ _ _ q => q.elim) (fun v9 A9 h9 hR9 => ?_)
      obtain ⟨rfl, hA9, rfl⟩ := hR9
      obtain rfl := hA9.symm
      refine v_st (k2 := 0) (n2 := 0) (st2 := [.int ((V_X5_isFull g))]) rfl rfl rfl ?_
      refine v_if_eq (pc := 21) (tgt := 26) C dX11_isOpenForWriting_21 (by decide) (fun c_3 => ?_) (fun c_3 => ?_)
      · skip
        refine v_aload_n (pc := 26) C dX11_isOpenForWriting_26 1 rfl rfl ?_
        refine v_iload_n (pc := 27) C dX11_isOpenForWriting_27 2 rfl rfl ?_
        refine v_callV (pc := 28) C (30, f) (ck_30 (g := g) hf) rfl (c_X4_partAt hG (f) (x) hf) 1 wd_321 wd_80 wd_318 wd_319 wd_320 (by decide +kernel) (by decide) (by decide) rfl ([]) rfl (Nat.le_of_ble_eq_true rfl) (by decide) dX11_isOpenForWriting_28 (fun _ _ _ q => q.elim) (fun v9 A9 h9 hR9 => ?_)
        obtain ⟨rfl, hA9, rfl⟩ := hR9
        obtain rfl := hA9.symm
        rcases Classical.em (x < 0) with c_4 | c_4
        · skip
          refine v_st (k2 := 0) (n2 := 0) (st2 := [.null]) rfl rfl (by show vRq A (Q_X4_partAt g (f) (x)) :: _ = _; rw [Q_X4_partAt]; rw [if_pos c_4]; rfl) ?_
          refine v_ifnonnullN (pc := 31) C dX11_isOpenForWriting_31 ?_
          refine v_aload_n (pc := 34) C dX11_isOpenForWriting_34 0 rfl rfl ?_
          refine v_aload_n (pc := 35) C dX11_isOpenForWriting_35 1 rfl rfl ?_
          refine v_get (pc := 36) C (30, f) (v := .ref (A (27, ((g 50 f 0)).toNatClampNeg))) (ck_30 (g := g) hf) rfl 1 (by decide) inX4 wd_709 rfl rfl dX11_isOpenForWriting_36 ?_
          refine v_callV (pc := 39) C (0, 0) ck_0 rfl (c_X11_partsOf hG (((g 50 f 0)).toNatClampNeg) (hI f hf) hI) 1 wd_762 wd_62 wd_759 wd_761 wd_16 (by decide +kernel) (by decide) (by decide) rfl ([]) rfl (Nat.le_of_ble_eq_true rfl) (by decide) dX11_isOpenForWriting_39 (fun _ _ _ q => q.elim) (fun v9 A9 h9 hR9 => ?_)
          obtain ⟨rfl, hA9, rfl⟩ := hR9
          obtain rfl := hA9.symm
          refine v_st (k2 := 0) (n2 := 0) (st2 := [.int ((V_X11_partsOf g (((g 50 f 0)).toNatClampNeg)))]) rfl rfl rfl ?_
          refine v_aload_n (pc := 42) C dX11_isOpenForWriting_42 1 rfl rfl ?_
          refine v_get (pc := 43) C (30, f) (v := .ref (A (27, ((g 50 f 0)).toNatClampNeg))) (ck_30 (g := g) hf) rfl 1 (by decide) inX4 wd_709 rfl rfl dX11_isOpenForWriting_43 ?_
          refine v_get (pc := 46) C (27, ((g 50 f 0)).toNatClampNeg) (v := .int ((g 41 ((g 50 f 0)).toNatClampNeg 0))) (ck_27 (g := g) (hI f hf)) rfl 2 (by decide) inX3 wd_543 rfl rfl dX11_isOpenForWriting_46 ?_
          refine v_icmp_ge (pc := 49) (tgt := 56) C dX11_isOpenForWriting_49 (by decide) (fun c_5 => ?_) (fun c_5 => ?_)
          · skip
            refine v_iconst (v := 0) (pc := 56) C dX11_isOpenForWriting_56 rfl ?_
            exact v_zret (pc := 57) C rfl (by decide) (by decide) dX11_isOpenForWriting_57 ⟨(congrArg (fun q => some (Value.int q)) (by show _ = _; rw [V_X11_isOpenForWriting, if_pos c_1, if_pos c_2, if_pos c_3, if_pos c_4, if_pos c_5])), rfl, rfl⟩
          · skip
            refine v_iconst (v := 1) (pc := 52) C dX11_isOpenForWriting_52 rfl ?_
            refine v_goto (tgt := 57) (pc := 53) C dX11_isOpenForWriting_53 (by decide) ?_
            exact v_zret (pc := 57) C rfl (by decide) (by decide) dX11_isOpenForWriting_57 ⟨(congrArg (fun q => some (Value.int q)) (by show _ = _; rw [V_X11_isOpenForWriting, if_pos c_1, if_pos c_2, if_pos c_3, if_pos c_4, if_neg c_5])), rfl, rfl⟩
        · skip
          rcases Classical.em (8 ≤ x) with c_6 | c_6
          · skip
            refine v_st (k2 := 0) (n2 := 0) (st2 := [.null]) rfl rfl (by show vRq A (Q_X4_partAt g (f) (x)) :: _ = _; rw [Q_X4_partAt]; rw [if_neg c_4, if_pos c_6]; rfl) ?_
            refine v_ifnonnullN (pc := 31) C dX11_isOpenForWriting_31 ?_
            refine v_aload_n (pc := 34) C dX11_isOpenForWriting_34 0 rfl rfl ?_
            refine v_aload_n (pc := 35) C dX11_isOpenForWriting_35 1 rfl rfl ?_
            refine v_get (pc := 36) C (30, f) (v := .ref (A (27, ((g 50 f 0)).toNatClampNeg))) (ck_30 (g := g) hf) rfl 1 (by decide) inX4 wd_709 rfl rfl dX11_isOpenForWriting_36 ?_
            refine v_callV (pc := 39) C (0, 0) ck_0 rfl (c_X11_partsOf hG (((g 50 f 0)).toNatClampNeg) (hI f hf) hI) 1 wd_762 wd_62 wd_759 wd_761 wd_16 (by decide +kernel) (by decide) (by decide) rfl ([]) rfl (Nat.le_of_ble_eq_true rfl) (by decide) dX11_isOpenForWriting_39 (fun _ _ _ q => q.elim) (fun v9 A9 h9 hR9 => ?_)
            obtain ⟨rfl, hA9, rfl⟩ := hR9
            obtain rfl := hA9.symm
            refine v_st (k2 := 0) (n2 := 0) (st2 := [.int ((V_X11_partsOf g (((g 50 f 0)).toNatClampNeg)))]) rfl rfl rfl ?_
            refine v_aload_n (pc := 42) C dX11_isOpenForWriting_42 1 rfl rfl ?_
            refine v_get (pc := 43) C (30, f) (v := .ref (A (27, ((g 50 f 0)).toNatClampNeg))) (ck_30 (g := g) hf) rfl 1 (by decide) inX4 wd_709 rfl rfl dX11_isOpenForWriting_43 ?_
            refine v_get (pc := 46) C (27, ((g 50 f 0)).toNatClampNeg) (v := .int ((g 41 ((g 50 f 0)).toNatClampNeg 0))) (ck_27 (g := g) (hI f hf)) rfl 2 (by decide) inX3 wd_543 rfl rfl dX11_isOpenForWriting_46 ?_
            refine v_icmp_ge (pc := 49) (tgt := 56) C dX11_isOpenForWriting_49 (by decide) (fun c_7 => ?_) (fun c_7 => ?_)
            · skip
              refine v_iconst (v := 0) (pc := 56) C dX11_isOpenForWriting_56 rfl ?_
              exact v_zret (pc := 57) C rfl (by decide) (by decide) dX11_isOpenForWriting_57 ⟨(congrArg (fun q => some (Value.int q)) (by show _ = _; rw [V_X11_isOpenForWriting, if_pos c_1, if_pos c_2, if_pos c_3, if_neg c_4, if_pos c_6, if_pos c_7])), rfl, rfl⟩
            · skip
              refine v_iconst (v := 1) (pc := 52) C dX11_isOpenForWriting_52 rfl ?_
              refine v_goto (tgt := 57) (pc := 53) C dX11_isOpenForWriting_53 (by decide) ?_
              exact v_zret (pc := 57) C rfl (by decide) (by decide) dX11_isOpenForWriting_57 ⟨(congrArg (fun q => some (Value.int q)) (by show _ = _; rw [V_X11_isOpenForWriting, if_pos c_1, if_pos c_2, if_pos c_3, if_neg c_4, if_pos c_6, if_neg c_7])), rfl, rfl⟩
          · skip
            rcases Classical.em ((g 106 f (x).toNatClampNeg) = 0) with c_8 | c_8
            · skip
              refine v_st (k2 := 0) (n2 := 0) (st2 := [.null]) rfl rfl (by show vRq A (Q_X4_partAt g (f) (x)) :: _ = _; rw [Q_X4_partAt]; rw [if_neg c_4, if_neg c_6, if_pos c_8]; rfl) ?_
              refine v_ifnonnullN (pc := 31) C dX11_isOpenForWriting_31 ?_
              refine v_aload_n (pc := 34) C dX11_isOpenForWriting_34 0 rfl rfl ?_
              refine v_aload_n (pc := 35) C dX11_isOpenForWriting_35 1 rfl rfl ?_
              refine v_get (pc := 36) C (30, f) (v := .ref (A (27, ((g 50 f 0)).toNatClampNeg))) (ck_30 (g := g) hf) rfl 1 (by decide) inX4 wd_709 rfl rfl dX11_isOpenForWriting_36 ?_
              refine v_callV (pc := 39) C (0, 0) ck_0 rfl (c_X11_partsOf hG (((g 50 f 0)).toNatClampNeg) (hI f hf) hI) 1 wd_762 wd_62 wd_759 wd_761 wd_16 (by decide +kernel) (by decide) (by decide) rfl ([]) rfl (Nat.le_of_ble_eq_true rfl) (by decide) dX11_isOpenForWriting_39 (fun _ _ _ q => q.elim) (fun v9 A9 h9 hR9 => ?_)
              obtain ⟨rfl, hA9, rfl⟩ := hR9
              obtain rfl := hA9.symm
              refine v_st (k2 := 0) (n2 := 0) (st2 := [.int ((V_X11_partsOf g (((g 50 f 0)).toNatClampNeg)))]) rfl rfl rfl ?_
              refine v_aload_n (pc := 42) C dX11_isOpenForWriting_42 1 rfl rfl ?_
              refine v_get (pc := 43) C (30, f) (v := .ref (A (27, ((g 50 f 0)).toNatClampNeg))) (ck_30 (g := g) hf) rfl 1 (by decide) inX4 wd_709 rfl rfl dX11_isOpenForWriting_43 ?_
              refine v_get (pc := 46) C (27, ((g 50 f 0)).toNatClampNeg) (v := .int ((g 41 ((g 50 f 0)).toNatClampNeg 0))) (ck_27 (g := g) (hI f hf)) rfl 2 (by decide) inX3 wd_543 rfl rfl dX11_isOpenForWriting_46 ?_
              refine v_icmp_ge (pc := 49) (tgt := 56) C dX11_isOpenForWriting_49 (by decide) (fun c_9 => ?_) (fun c_9 => ?_)
              · skip
                refine v_iconst (v := 0) (pc := 56) C dX11_isOpenForWriting_56 rfl ?_
                exact v_zret (pc := 57) C rfl (by decide) (by decide) dX11_isOpenForWriting_57 ⟨(congrArg (fun q => some (Value.int q)) (by show _ = _; rw [V_X11_isOpenForWriting, if_pos c_1, if_pos c_2, if_pos c_3, if_neg c_4, if_neg c_6, if_pos c_8, if_pos c_9])), rfl, rfl⟩
              · skip
                refine v_iconst (v := 1) (pc := 52) C dX11_isOpenForWriting_52 rfl ?_
                refine v_goto (tgt := 57) (pc := 53) C dX11_isOpenForWriting_53 (by decide) ?_
                exact v_zret (pc := 57) C rfl (by decide) (by decide) dX11_isOpenForWriting_57 ⟨(congrArg (fun q => some (Value.int q)) (by show _ = _; rw [V_X11_isOpenForWriting, if_pos c_1, if_pos c_2, if_pos c_3, if_neg c_4, if_neg c_6, if_pos c_8, if_neg c_9])), rfl, rfl⟩
            · skip
              refine v_st (k2 := 0) (n2 := 0) (st2 := [.ref (A (32, 8 * f + (x).toNatClampNeg))]) rfl rfl (by show vRq A (Q_X4_partAt g (f) (x)) :: _ = _; rw [Q_X4_partAt]; rw [if_neg c_4, if_neg c_6, if_neg c_8]; rfl) ?_
              refine v_ifnonnull (tgt := 52) (pc := 31) C dX11_isOpenForWriting_31 (by decide) ?_
              refine v_iconst (v := 1) (pc := 52) C dX11_isOpenForWriting_52 rfl ?_
              refine v_goto (tgt := 57) (pc := 53) C dX11_isOpenForWriting_53 (by decide) ?_
              exact v_zret (pc := 57) C rfl (by decide) (by decide) dX11_isOpenForWriting_57 ⟨(congrArg (fun q => some (Value.int q)) (by show _ = _; rw [V_X11_isOpenForWriting, if_pos c_1, if_pos c_2, if_pos c_3, if_neg c_4, if_neg c_6, if_neg c_8])), rfl, rfl⟩
      · skip
        refine v_iconst (v := 0) (pc := 24) C dX11_isOpenForWriting_24 rfl ?_
        exact v_zret (pc := 25) C rfl (by decide) (by decide) dX11_isOpenForWriting_25 ⟨(congrArg (fun q => some (Value.int q)) (by show _ = _; rw [V_X11_isOpenForWriting, if_pos c_1, if_pos c_2, if_neg c_3])), rfl, rfl⟩
def VL_X11_usersAway_4 (g : vS)  : Nat → Nat → Int32 → Int32
  | 0, _, _ => 0
  | n + 1, i_4, x_4_1 => (if (g 0 0 0) ≤ nI i_4 then x_4_1 else (if 6 ≤ nI i_4 then x_4_1 else (if (g 103 i_4 0) = 0 then (VL_X11_usersAway_4 g n (i_4 + 1) (x_4_1)) else (if (g 21 i_4 0) = 0 then (VL_X11_usersAway_4 g n (i_4 + 1) (x_4_1)) else (VL_X11_usersAway_4 g n (i_4 + 1) ((x_4_1 + 1)))))))
def V_X11_usersAway (g : vS)  : Int32 := (VL_X11_usersAway_4 g (6 + 1) 0 (0))
set_option maxHeartbeats 4000000 in
set_option maxRecDepth 100000 in
theorem c_X11_usersAway {G : vG} (hG : G.1.stackTraces = false) {A : vN → Nat} {g : vS} {r : vH}   : vCt G yX11_usersAway cX11_usersAway 4 (some .int) 0 [.ref (A (0, 0))] A (w g r) (fun v A2 h2 => v = some (.int (V_X11_usersAway g)) ∧ A2 = A ∧ h2 = w g r) (vNoX) 0 0 := by
  refine v_of hG (by decide +kernel) (Nat.le_of_ble_eq_true rfl) (lv := [(0, .ref (A (0, 0)))]) rfl (fun X C hnx => ?_)
  have C : vC G X cX11_usersAway 4 RX11 (some .int) "usersAway" 0 0 0 := C
  refine v_iconst (v := 0) (pc := 0) C dX11_usersAway_0 rfl ?_
  refine v_istore_n (lv2 := [(1, .int (0)), (0, .ref (A (0, 0)))]) (pc := 1) C dX11_usersAway_1 rfl (by decide) rfl ?_
  refine v_iconst (v := 0) (pc := 2) C dX11_usersAway_2 rfl ?_
  refine v_istore_n (lv2 := [(2, .int (0)), (1, .int (0)), (0, .ref (A (0, 0)))]) (pc := 3) C dX11_usersAway_3 rfl (by decide) rfl ?_
  have L_4 : ∀ (n : Nat) (i_4 : Nat) (x_4_1 : Int32), i_4 ≤ 6 → 6 + 1 ≤ i_4 + n → (V_X11_usersAway g) = VL_X11_usersAway_4 g n i_4 x_4_1 → V G 4 X A (w g r) 0 0 (vM G X (fun v A2 h2 => v = some (.int (V_X11_usersAway g)) ∧ A2 = A ∧ h2 = w g r) (vNoX) 0 0) 4 [(2, .int (nI i_4)), (1, .int (x_4_1)), (0, .ref (A (0, 0)))] [] := by
    intro n
    induction n with
    | zero => intro i_4 x_4_1 hi_4 hc_4 eV_4; exact absurd hc_4 (by omega)
    | succ n ih =>
      intro i_4 x_4_1 hi_4 hc_4 eV_4
      have hq_4 : (nI i_4).toInt = (i_4 : Int) := nI_toInt (by omega)
      have hr_4 : (nI (i_4 + 1)).toInt = ((i_4 + 1 : Nat) : Int) := nI_toInt (by omega)
      refine v_iload_n (pc := 4) C dX11_usersAway_4 0 rfl rfl ?_
      refine v_aload_n (pc := 5) C dX11_usersAway_5 2 rfl rfl ?_
      refine v_get (pc := 6) C (0, 0) (v := .int ((g 0 0 0))) ck_0 rfl 8 (by decide) inX11 wd_228 rfl rfl dX11_usersAway_6 ?_
      refine v_icmp_ge (pc := 9) (tgt := 48) C dX11_usersAway_9 (by decide) (fun c_1 => ?_) (fun c_1 => ?_)
      · skip
        refine v_iload_n (pc := 48) C dX11_usersAway_48 1 rfl rfl ?_
        exact v_iret (pc := 49) C (by decide) (by decide) dX11_usersAway_49 ⟨(congrArg (fun q => some (Value.int q)) (by show _ = _; rw [eV_4, VL_X11_usersAway_4, if_pos c_1])), rfl, rfl⟩
      · skip
        refine v_iload_n (pc := 12) C dX11_usersAway_12 0 rfl rfl ?_
        refine v_aload_n (pc := 13) C dX11_usersAway_13 2 rfl rfl ?_
        refine v_get (pc := 14) C (0, 0) (v := .ref (A (1, 0))) ck_0 rfl 0 (by decide) inX11 wd_220 rfl rfl dX11_usersAway_14 ?_
        refine v_alen (pc := 17) C (1, 0) (v := 6) ck_1 rfl (by decide) dX11_usersAway_17 ?_
        refine v_icmp_ge (pc := 18) (tgt := 48) C dX11_usersAway_18 (by decide) (fun c_2 => ?_) (fun c_2 => ?_)
        · skip
          refine v_iload_n (pc := 48) C dX11_usersAway_48 1 rfl rfl ?_
          exact v_iret (pc := 49) C (by decide) (by decide) dX11_usersAway_49 ⟨(congrArg (fun q => some (Value.int q)) (by show _ = _; rw [eV_4, VL_X11_usersAway_4, if_neg c_1, if_pos c_2])), rfl, rfl⟩
        · skip
          refine v_aload_n (pc := 21) C dX11_usersAway_21 2 rfl rfl ?_
          refine v_get (pc := 22) C (0, 0) (v := .ref (A (1, 0))) ck_0 rfl 0 (by decide) inX11 wd_220 rfl rfl dX11_usersAway_22 ?_
          refine v_iload_n (pc := 25) C dX11_usersAway_25 0 rfl rfl ?_
          rcases Classical.em ((g 103 i_4 0) = 0) with c_3 | c_3
          · skip
            refine v_aaldN (pc := 26) C (1, 0) ck_1 rfl rfl (by (try simp only [Int32.le_iff_toInt_le, Int32.lt_iff_toInt_lt, ← Int32.toInt_inj, vp_in_iff, Int32.reduceToInt] at c_1 c_2 hq_4 hr_4 ⊢) <;> omega) ((congrArg (fun k => if g 103 k 0 = 0 then none else some (22, k)) (show (nI i_4 : Int32).toNatClampNeg = i_4 from (nI_clamp (by omega)))).trans ((if_pos c_3 : (fun k => if g 103 k 0 = 0 then none else some (22, k)) i_4 = none))) dX11_usersAway_26 ?_
            refine v_astore_nN (lv2 := [(3, .null), (2, .int (nI i_4)), (1, .int (x_4_1)), (0, .ref (A (0, 0)))]) (pc := 27) C dX11_usersAway_27 rfl (by decide) rfl ?_
            refine v_aload_nN (pc := 28) C dX11_usersAway_28 0 rfl rfl ?_
            refine v_ifnullN (tgt := 42) (pc := 29) C dX11_usersAway_29 (by decide) ?_
            refine v_iinc (v := nI (i_4 + 1)) (lv2 := [(2, .int (nI (i_4 + 1))), (3, .null), (1, .int (x_4_1)), (0, .ref (A (0, 0)))]) (pc := 42) C dX11_usersAway_42 1 rfl (nI_1 _) (by decide) rfl ?_
            refine v_goto (tgt := 4) (pc := 45) C dX11_usersAway_45 (by decide) ?_
            refine v_lv (lv2 := [(2, .int (nI (i_4 + 1))), (1, .int (x_4_1)), (0, .ref (A (0, 0)))]) [0, 2, 3] rfl ?_
            exact ih (i_4 + 1) (x_4_1) (by (try simp only [Int32.le_iff_toInt_le, Int32.lt_iff_toInt_lt, ← Int32.toInt_inj, vp_in_iff, Int32.reduceToInt] at c_1 c_2 c_3 hq_4 hr_4 ⊢) <;> omega) (by omega)  (by rw [eV_4, VL_X11_usersAway_4, if_neg c_1, if_neg c_2, if_pos c_3])
          · skip
            refine v_aald (pc := 26) C (1, 0) ck_1 rfl rfl (by (try simp only [Int32.le_iff_toInt_le, Int32.lt_iff_toInt_lt, ← Int32.toInt_inj, vp_in_iff, Int32.reduceToInt] at c_1 c_2 hq_4 hr_4 ⊢) <;> omega) (22, i_4) ((congrArg (fun k => if g 103 k 0 = 0 then none else some (22, k)) (show (nI i_4 : Int32).toNatClampNeg = i_4 from (nI_clamp (by omega)))).trans ((if_neg c_3 : (fun k => if g 103 k 0 = 0 then none else some (22, k)) i_4 = some (22, i_4)))) dX11_usersAway_26 ?_
            refine v_astore_n (lv2 := [(3, .ref (A (22, i_4))), (2, .int (nI i_4)), (1, .int (x_4_1)), (0, .ref (A (0, 0)))]) (pc := 27) C dX11_usersAway_27 rfl (by decide) rfl ?_
            refine v_aload_n (pc := 28) C dX11_usersAway_28 0 rfl rfl ?_
            refine v_ifnull (pc := 29) C dX11_usersAway_29 ?_
            refine v_aload_n (pc := 32) C dX11_usersAway_32 0 rfl rfl ?_
            refine v_get (pc := 33) C (22, i_4) (v := .int ((g 21 i_4 0))) (ck_22 (g := g) c_3) rfl 3 (by decide) inX9 wd_477 rfl rfl dX11_usersAway_33 ?_
            refine v_if_eq (pc := 36) (tgt := 42) C dX11_usersAway_36 (by decide) (fun c_4 => ?_) (fun c_4 => ?_)
            · skip
              refine v_iinc (v := nI (i_4 + 1)) (lv2 := [(2, .int (nI (i_4 + 1))), (3, .ref (A (22, i_4))), (1, .int (x_4_1)), (0, .ref (A (0, 0)))]) (pc := 42) C dX11_usersAway_42 1 rfl (nI_1 _) (by decide) rfl ?_
              refine v_goto (tgt := 4) (pc := 45) C dX11_usersAway_45 (by decide) ?_
              refine v_lv (lv2 := [(2, .int (nI (i_4 + 1))), (1, .int (x_4_1)), (0, .ref (A (0, 0)))]) [0, 2, 3] rfl ?_
              exact ih (i_4 + 1) (x_4_1) (by (try simp only [Int32.le_iff_toInt_le, Int32.lt_iff_toInt_lt, ← Int32.toInt_inj, vp_in_iff, Int32.reduceToInt] at c_1 c_2 c_3 c_4 hq_4 hr_4 ⊢) <;> omega) (by omega)  (by rw [eV_4, VL_X11_usersAway_4, if_neg c_1, if_neg c_2, if_neg c_3, if_pos c_4])
            · skip
              refine v_iinc (v := (x_4_1 + 1)) (lv2 := [(1, .int ((x_4_1 + 1))), (3, .ref (A (22, i_4))), (2, .int (nI i_4)), (0, .ref (A (0, 0)))]) (pc := 39) C dX11_usersAway_39 2 rfl rfl (by decide) rfl ?_
              refine v_iinc (v := nI (i_4 + 1)) (lv2 := [(2, .int (nI (i_4 + 1))), (1, .int ((x_4_1 + 1))), (3, .ref (A (22, i_4))), (0, .ref (A (0, 0)))]) (pc := 42) C dX11_usersAway_42 2 rfl (nI_1 _) (by decide) rfl ?_
              refine v_goto (tgt := 4) (pc := 45) C dX11_usersAway_45 (by decide) ?_
              refine v_lv (lv2 := [(2, .int (nI (i_4 + 1))), (1, .int ((x_4_1 + 1))), (0, .ref (A (0, 0)))]) [0, 1, 3] rfl ?_
              exact ih (i_4 + 1) ((x_4_1 + 1)) (by (try simp only [Int32.le_iff_toInt_le, Int32.lt_iff_toInt_lt, ← Int32.toInt_inj, vp_in_iff, Int32.reduceToInt] at c_1 c_2 c_3 c_4 hq_4 hr_4 ⊢) <;> omega) (by omega)  (by rw [eV_4, VL_X11_usersAway_4, if_neg c_1, if_neg c_2, if_neg c_3, if_neg c_4])
  exact L_4 (6 + 1) 0 (0) (by omega) (by omega)  (by rw [V_X11_usersAway])
def S_X11_noteConflict (g : vS) (x : Int32) : vS := (if (g 5 0 0) < 0 then g else (if 10 ≤ (g 5 0 0) then g else (s3 (s3 g 84 ((g 5 0 0)).toNatClampNeg 0 (x)) 5 0 0 (((g 5 0 0) + 1)))))
theorem F_X11_noteConflict {g : vS} {x : Int32} {c i j : Nat} (h5 : c ≠ 5) (h84 : c ≠ 84) : S_X11_noteConflict g x c i j = g c i j := by
  unfold S_X11_noteConflict
  (repeat' split) <;> first | rfl | ((simp only [s3_k h5, s3_k h84]) <;> first | done | rfl)
set_option maxHeartbeats 4000000 in
set_option maxRecDepth 100000 in
theorem c_X11_noteConflict {G : vG} (hG : G.1.stackTraces = false) {A : vN → Nat} {g : vS} {r : vH} (x : Int32)  : vCt G yX11_noteConflict cX11_noteConflict 2 none 0 [.ref (A (0, 0)), .int (x)] A (w g r) (fun v A2 h2 => v = none ∧ A2 = A ∧ h2 = w (S_X11_noteConflict g x) r) (vNoX) 0 0 := by
  refine v_of hG (by decide +kernel) (Nat.le_of_ble_eq_true rfl) (lv := [(0, .ref (A (0, 0))), (1, .int (x))]) rfl (fun X C hnx => ?_)
  have C : vC G X cX11_noteConflict 2 RX11 none "noteConflict" 0 0 0 := C
  refine v_aload_n (pc := 0) C dX11_noteConflict_0 0 rfl rfl ?_
  refine v_get (pc := 1) C (0, 0) (v := .int ((g 5 0 0))) ck_0 rfl 11 (by decide) inX11 wd_231 rfl rfl dX11_noteConflict_1 ?_
  refine v_if_lt (pc := 4) (tgt := 39) C dX11_noteConflict_4 (by decide) (fun c_1 => ?_) (fun c_1 => ?_)
  · skip
    exact v_vret (pc := 39) C (by decide) (by decide) dX11_noteConflict_39 ⟨rfl, rfl, (congrArg (fun q => w q r) (by show _ = _; rw [S_X11_noteConflict, if_pos c_1]))⟩
  · skip
    refine v_aload_n (pc := 7) C dX11_noteConflict_7 0 rfl rfl ?_
    refine v_get (pc := 8) C (0, 0) (v := .int ((g 5 0 0))) ck_0 rfl 11 (by decide) inX11 wd_231 rfl rfl dX11_noteConflict_8 ?_
    refine v_aload_n (pc := 11) C dX11_noteConflict_11 0 rfl rfl ?_
    refine v_get (pc := 12) C (0, 0) (v := .ref (A (21, 0))) ck_0 rfl 7 (by decide) inX11 wd_227 rfl rfl dX11_noteConflict_12 ?_
    refine v_alen (pc := 15) C (21, 0) (v := 10) ck_21 rfl (by decide) dX11_noteConflict_15 ?_
    refine v_icmp_ge (pc := 16) (tgt := 39) C dX11_noteConflict_16 (by decide) (fun c_2 => ?_) (fun c_2 => ?_)
    · skip
      exact v_vret (pc := 39) C (by decide) (by decide) dX11_noteConflict_39 ⟨rfl, rfl, (congrArg (fun q => w q r) (by show _ = _; rw [S_X11_noteConflict, if_neg c_1, if_pos c_2]))⟩
    · skip
      refine v_aload_n (pc := 19) C dX11_noteConflict_19 0 rfl rfl ?_
      refine v_get (pc := 20) C (0, 0) (v := .ref (A (21, 0))) ck_0 rfl 7 (by decide) inX11 wd_227 rfl rfl dX11_noteConflict_20 ?_
      refine v_aload_n (pc := 23) C dX11_noteConflict_23 0 rfl rfl ?_
      refine v_get (pc := 24) C (0, 0) (v := .int ((g 5 0 0))) ck_0 rfl 11 (by decide) inX11 wd_231 rfl rfl dX11_noteConflict_24 ?_
      refine v_iload_n (pc := 27) C dX11_noteConflict_27 1 rfl rfl ?_
      refine v_iast (pc := 28) C (21, 0) (x := x) ck_21 (by (try simp only [Int32.le_iff_toInt_le, Int32.lt_iff_toInt_lt, ← Int32.toInt_inj, vp_in_iff, Int32.reduceToInt] at c_1 c_2 ⊢) <;> omega) dX11_noteConflict_28 ?_
      refine v_h (h2 := (w (s3 g 84 ((g 5 0 0)).toNatClampNeg 0 (x)) r)) (u_21_a) ?_
      refine v_aload_n (pc := 29) C dX11_noteConflict_29 0 rfl rfl ?_
      refine v_dup (pc := 30) C dX11_noteConflict_30 rfl ?_
      refine v_get (pc := 31) C (0, 0) (v := .int ((g 5 0 0))) ck_0 rfl 11 (by decide) inX11 wd_231 rfl rfl dX11_noteConflict_31 ?_
      refine v_iconst (v := 1) (pc := 34) C dX11_noteConflict_34 rfl ?_
      refine v_iadd (pc := 35) C dX11_noteConflict_35 ?_
      refine v_put (pc := 36) C (0, 0) (v := .int (((g 5 0 0) + 1))) ck_0 rfl 11 (by decide) inX11 tyX11 tyX11_ok nmX11 wd_231 rfl (.inl (Value.int (((g 5 0 0) + 1)))) rfl (ty := tyX11 11) (by decide +kernel) rfl rfl (Nat.le_of_ble_eq_true rfl) dX11_noteConflict_36 ?_
      refine v_h (h2 := (w (s3 (s3 g 84 ((g 5 0 0)).toNatClampNeg 0 (x)) 5 0 0 (((g 5 0 0) + 1))) r)) (u_0_11) ?_
      exact v_vret (pc := 39) C (by decide) (by decide) dX11_noteConflict_39 ⟨rfl, rfl, (congrArg (fun q => w q r) (by show _ = _; rw [S_X11_noteConflict, if_neg c_1, if_neg c_2]))⟩
def VL_X11_turnFilesOf_4 (g : vS) (gi : Nat) : Nat → Nat → Int32 → vS → Int32
  | 0, _, _, _ => 0
  | n + 1, i_4, x_4_2, q_4 => (if (g 2 0 0) ≤ nI i_4 then x_4_2 else (if 20 ≤ nI i_4 then x_4_2 else (if (g 105 i_4 0) = 0 then (VL_X11_turnFilesOf_4 g gi n (i_4 + 1) (x_4_2) q_4) else (if (g 48 ((g 50 i_4 0)).toNatClampNeg 0) = (g 48 gi 0) then (if (g 53 i_4 0) = 0 then (if (V_X4_isSpoiled q_4 (i_4)) = 0 then (VL_X11_turnFilesOf_4 g gi n (i_4 + 1) ((x_4_2 + (V_X4_writeAllAnew q_4 (i_4) ((V_X2_moment q_4))))) (S_X4_writeAllAnew q_4 (i_4) ((V_X2_moment q_4)))) else (VL_X11_turnFilesOf_4 g gi n (i_4 + 1) (x_4_2) q_4)) else (VL_X11_turnFilesOf_4 g gi n (i_4 + 1) (x_4_2) q_4)) else (VL_X11_turnFilesOf_4 g gi n (i_4 + 1) (x_4_2) q_4)))))
def SL_X11_turnFilesOf_4 (g : vS) (gi : Nat) : Nat → Nat → Int32 → vS → vS
  | 0, _, _, q9 => q9
  | n + 1, i_4, x_4_2, q_4 => (if (g 2 0 0) ≤ nI i_4 then q_4 else (if 20 ≤ nI i_4 then q_4 else (if (g 105 i_4 0) = 0 then (SL_X11_turnFilesOf_4 g gi n (i_4 + 1) (x_4_2) q_4) else (if (g 48 ((g 50 i_4 0)).toNatClampNeg 0) = (g 48 gi 0) then (if (g 53 i_4 0) = 0 then (if (V_X4_isSpoiled q_4 (i_4)) = 0 then (SL_X11_turnFilesOf_4 g gi n (i_4 + 1) ((x_4_2 + (V_X4_writeAllAnew q_4 (i_4) ((V_X2_moment q_4))))) (S_X4_writeAllAnew q_4 (i_4) ((V_X2_moment q_4)))) else (SL_X11_turnFilesOf_4 g gi n (i_4 + 1) (x_4_2) q_4)) else (SL_X11_turnFilesOf_4 g gi n (i_4 + 1) (x_4_2) q_4)) else (SL_X11_turnFilesOf_4 g gi n (i_4 + 1) (x_4_2) q_4)))))
def V_X11_turnFilesOf (g : vS) (gi : Nat) : Int32 := (VL_X11_turnFilesOf_4 g gi (20 + 1) 0 (0) g)
def S_X11_turnFilesOf (g : vS) (gi : Nat) : vS := (SL_X11_turnFilesOf_4 g gi (20 + 1) 0 (0) g)
theorem FL_X11_turnFilesOf_4 {g : vS} {gi : Nat} {c i j : Nat} (h51 : c ≠ 51) (h52 : c ≠ 52) (h57 : c ≠ 57) (h58 : c ≠ 58) (h60 : c ≠ 60) (h61 : c ≠ 61) (h62 : c ≠ 62) (h64 : c ≠ 64) (h65 : c ≠ 65) : ∀ (n : Nat) (a0 : Nat) (a1 : Int32) (a2 : vS), a2 c i j = g c i j → SL_X11_turnFilesOf_4 g gi n a0 a1 a2 c i j = g c i j := by
  intro n
  induction n with
  | zero => intro a0 a1 a2 hq9; exact hq9
  | succ n ih =>
    intro a0 a1 a2 hq9
    simp only [SL_X11_turnFilesOf_4]
    (repeat' split) <;> first | rfl | exact hq9 | (apply ih; first | exact hq9 | rfl | trivial | ((simp only [s3_k h51, s3_k h52, s3_k h57, s3_k h58, s3_k h60, s3_k h61, s3_k h62, s3_k h64, s3_k h65, F_X4_writeAllAnew h51 h52 h57 h58 h60 h61 h62 h64 h65]) <;> first | done | exact hq9 | rfl)) | ((simp only [s3_k h51, s3_k h52, s3_k h57, s3_k h58, s3_k h60, s3_k h61, s3_k h62, s3_k h64, s3_k h65, F_X4_writeAllAnew h51 h52 h57 h58 h60 h61 h62 h64 h65]) <;> first | done | exact hq9 | rfl)
theorem F_X11_turnFilesOf {g : vS} {gi : Nat} {c i j : Nat} (h51 : c ≠ 51) (h52 : c ≠ 52) (h57 : c ≠ 57) (h58 : c ≠ 58) (h60 : c ≠ 60) (h61 : c ≠ 61) (h62 : c ≠ 62) (h64 : c ≠ 64) (h65 : c ≠ 65) : S_X11_turnFilesOf g gi c i j = g c i j := by
  unfold S_X11_turnFilesOf
  (repeat' split) <;> first | rfl | (apply FL_X11_turnFilesOf_4 h51 h52 h57 h58 h60 h61 h62 h64 h65; first | rfl | trivial | ((simp only [s3_k h51, s3_k h52, s3_k h57, s3_k h58, s3_k h60, s3_k h61, s3_k h62, s3_k h64, s3_k h65, F_X4_writeAllAnew h51 h52 h57 h58 h60 h61 h62 h64 h65]) <;> first | done | rfl)) | ((simp only [s3_k h51, s3_k h52, s3_k h57, s3_k h58, s3_k h60, s3_k h61, s3_k h62, s3_k h64, s3_k h65, F_X4_writeAllAnew h51 h52 h57 h58 h60 h61 h62 h64 h65]) <;> first | done | rfl)
set_option maxHeartbeats 4000000 in
set_option maxRecDepth 100000 in
theorem c_X11_turnFilesOf {G : vG} (hG : G.1.stackTraces = false) {A : vN → Nat} {g : vS} {r : vH} (gi : Nat) (hg : g 104 gi 0 ≠ 0) (hI : vI1 g) : vCt G yX11_turnFilesOf cX11_turnFilesOf 5 (some .int) 4 [.ref (A (0, 0)), .ref (A (27, gi))] A (w g r) (fun v A2 h2 => v = some (.int (V_X11_turnFilesOf g gi)) ∧ A2 = A ∧ h2 = w (S_X11_turnFilesOf g gi) r) (vNoX) 0 0 := by
  refine v_of hG (by decide +kernel) (Nat.le_of_ble_eq_true rfl) (lv := [(0, .ref (A (0, 0))), (1, .ref (A (27, gi)))]) rfl (fun X C hnx => ?_)
  have C : vC G X cX11_turnFilesOf 5 RX11 (some .int) "turnFilesOf" 4 0 0 := C
  refine v_iconst (v := 0) (pc := 0) C dX11_turnFilesOf_0 rfl ?_
  refine v_istore_n (lv2 := [(2, .int (0)), (0, .ref (A (0, 0))), (1, .ref (A (27, gi)))]) (pc := 1) C dX11_turnFilesOf_1 rfl (by decide) rfl ?_
  refine v_iconst (v := 0) (pc := 2) C dX11_turnFilesOf_2 rfl ?_
  refine v_istore_n (lv2 := [(3, .int (0)), (2, .int (0)), (0, .ref (A (0, 0))), (1, .ref (A (27, gi)))]) (pc := 3) C dX11_turnFilesOf_3 rfl (by decide) rfl ?_
  have L_4 : ∀ (n : Nat) (i_4 : Nat) (x_4_2 : Int32) (q_4 : vS), i_4 ≤ 20 → 20 + 1 ≤ i_4 + n → (∀ (c i j : Nat), c ≠ 51 → c ≠ 52 → c ≠ 57 → c ≠ 58 → c ≠ 60 → c ≠ 61 → c ≠ 62 → c ≠ 64 → c ≠ 65 → q_4 c i j = g c i j) → (V_X11_turnFilesOf g gi) = VL_X11_turnFilesOf_4 g gi n i_4 x_4_2 q_4 → (S_X11_turnFilesOf g gi) = SL_X11_turnFilesOf_4 g gi n i_4 x_4_2 q_4 → V G 5 X A (w q_4 r) 0 0 (vM G X (fun v A2 h2 => v = some (.int (V_X11_turnFilesOf g gi)) ∧ A2 = A ∧ h2 = w (S_X11_turnFilesOf g gi) r) (vNoX) 0 0) 4 [(3, .int (nI i_4)), (2, .int (x_4_2)), (0, .ref (A (0, 0))), (1, .ref (A (27, gi)))] [] := by
    intro n
    induction n with
    | zero => intro i_4 x_4_2 q_4 hi_4 hc_4 hF_4 eV_4 eS_4; exact absurd hc_4 (by omega)
    | succ n ih =>
      intro i_4 x_4_2 q_4 hi_4 hc_4 hF_4 eV_4 eS_4
      have hq_4 : (nI i_4).toInt = (i_4 : Int) := nI_toInt (by omega)
      have hr_4 : (nI (i_4 + 1)).toInt = ((i_4 + 1 : Nat) : Int) := nI_toInt (by omega)
      refine v_iload_n (pc := 4) C dX11_turnFilesOf_4 0 rfl rfl ?_
      refine v_aload_n (pc := 5) C dX11_turnFilesOf_5 2 rfl rfl ?_
      refine v_get (pc := 6) C (0, 0) (v := .int ((g 2 0 0))) ck_0 rfl 10 (by decide) inX11 wd_230 rfl (congrArg Value.int (hF_4 _ _ _ (by decide) (by decide) (by decide) (by decide) (by decide) (by decide) (by decide) (by decide) (by decide))) dX11_turnFilesOf_6 ?_
      refine v_icmp_ge (pc := 9) (tgt := 86) C dX11_turnFilesOf_9 (by decide) (fun c_1 => ?_) (fun c_1 => ?_)
      · skip
        refine v_iload_n (pc := 86) C dX11_turnFilesOf_86 1 rfl rfl ?_
        exact v_iret (pc := 87) C (by decide) (by decide) dX11_turnFilesOf_87 ⟨(congrArg (fun q => some (Value.int q)) (by show _ = _; rw [eV_4, VL_X11_turnFilesOf_4, if_pos c_1])), rfl, (congrArg (fun q => w q r) (by show _ = _; rw [eS_4, SL_X11_turnFilesOf_4, if_pos c_1]))⟩
      · skip
        refine v_iload_n (pc := 12) C dX11_turnFilesOf_12 0 rfl rfl ?_
        refine v_aload_n (pc := 13) C dX11_turnFilesOf_13 2 rfl rfl ?_
        refine v_get (pc := 14) C (0, 0) (v := .ref (A (3, 0))) ck_0 rfl 2 (by decide) inX11 wd_222 rfl rfl dX11_turnFilesOf_14 ?_
        refine v_alen (pc := 17) C (3, 0) (v := 20) ck_3 rfl (by decide) dX11_turnFilesOf_17 ?_
        refine v_icmp_ge (pc := 18) (tgt := 86) C dX11_turnFilesOf_18 (by decide) (fun c_2 => ?_) (fun c_2 => ?_)
        · skip
          refine v_iload_n (pc := 86) C dX11_turnFilesOf_86 1 rfl rfl ?_
          exact v_iret (pc := 87) C (by decide) (by decide) dX11_turnFilesOf_87 ⟨(congrArg (fun q => some (Value.int q)) (by show _ = _; rw [eV_4, VL_X11_turnFilesOf_4, if_neg c_1, if_pos c_2])), rfl, (congrArg (fun q => w q r) (by show _ = _; rw [eS_4, SL_X11_turnFilesOf_4, if_neg c_1, if_pos c_2]))⟩
        · skip
          refine v_aload_n (pc := 21) C dX11_turnFilesOf_21 2 rfl rfl ?_
          refine v_get (pc := 22) C (0, 0) (v := .ref (A (3, 0))) ck_0 rfl 2 (by decide) inX11 wd_222 rfl rfl dX11_turnFilesOf_22 ?_
          refine v_iload_n (pc := 25) C dX11_turnFilesOf_25 0 rfl rfl ?_
          rcases Classical.em ((g 105 i_4 0) = 0) with c_3 | c_3
          · skip
            refine v_aaldN (pc := 26) C (3, 0) ck_3 rfl rfl (by (try simp only [Int32.le_iff_toInt_le, Int32.lt_iff_toInt_lt, ← Int32.toInt_inj, vp_in_iff, Int32.reduceToInt] at c_1 c_2 hq_4 hr_4 ⊢) <;> omega) ((congrArg (fun k => if q_4 105 k 0 = 0 then none else some (30, k)) (show (nI i_4 : Int32).toNatClampNeg = i_4 from (nI_clamp (by omega)))).trans ((if_pos ((hF_4 _ _ _ (by decide) (by decide) (by decide) (by decide) (by decide) (by decide) (by decide) (by decide) (by decide)).trans c_3) : (fun k => if q_4 105 k 0 = 0 then none else some (30, k)) i_4 = none))) dX11_turnFilesOf_26 ?_
            refine v_astoreN (lv2 := [(4, .null), (3, .int (nI i_4)), (2, .int (x_4_2)), (0, .ref (A (0, 0))), (1, .ref (A (27, gi)))]) (pc := 27) C dX11_turnFilesOf_27 (by decide) rfl ?_
            refine v_aloadN (pc := 29) C dX11_turnFilesOf_29 0 rfl ?_
            refine v_ifnullN (tgt := 80) (pc := 31) C dX11_turnFilesOf_31 (by decide) ?_
            refine v_iinc (v := nI (i_4 + 1)) (lv2 := [(3, .int (nI (i_4 + 1))), (4, .null), (2, .int (x_4_2)), (0, .ref (A (0, 0))), (1, .ref (A (27, gi)))]) (pc := 80) C dX11_turnFilesOf_80 1 rfl (nI_1 _) (by decide) rfl ?_
            refine v_goto (tgt := 4) (pc := 83) C dX11_turnFilesOf_83 (by decide) ?_
            refine v_lv (lv2 := [(3, .int (nI (i_4 + 1))), (2, .int (x_4_2)), (0, .ref (A (0, 0))), (1, .ref (A (27, gi)))]) [0, 2, 3, 4] rfl ?_
            exact ih (i_4 + 1) (x_4_2) q_4 (by (try simp only [Int32.le_iff_toInt_le, Int32.lt_iff_toInt_lt, ← Int32.toInt_inj, vp_in_iff, Int32.reduceToInt] at c_1 c_2 c_3 hq_4 hr_4 ⊢) <;> omega) (by omega) (fun c i j h51 h52 h57 h58 h60 h61 h62 h64 h65 => hF_4 c i j h51 h52 h57 h58 h60 h61 h62 h64 h65) (by rw [eV_4, VL_X11_turnFilesOf_4, if_neg c_1, if_neg c_2, if_pos c_3]) (by rw [eS_4, SL_X11_turnFilesOf_4, if_neg c_1, if_neg c_2, if_pos c_3])
          · skip
            refine v_aald (pc := 26) C (3, 0) ck_3 rfl rfl (by (try simp only [Int32.le_iff_toInt_le, Int32.lt_iff_toInt_lt, ← Int32.toInt_inj, vp_in_iff, Int32.reduceToInt] at c_1 c_2 hq_4 hr_4 ⊢) <;> omega) (30, i_4) ((congrArg (fun k => if q_4 105 k 0 = 0 then none else some (30, k)) (show (nI i_4 : Int32).toNatClampNeg = i_4 from (nI_clamp (by omega)))).trans ((if_neg (vtn (hF_4 _ _ _ (by decide) (by decide) (by decide) (by decide) (by decide) (by decide) (by decide) (by decide) (by decide)) c_3) : (fun k => if q_4 105 k 0 = 0 then none else some (30, k)) i_4 = some (30, i_4)))) dX11_turnFilesOf_26 ?_
            refine v_astore (lv2 := [(4, .ref (A (30, i_4))), (3, .int (nI i_4)), (2, .int (x_4_2)), (0, .ref (A (0, 0))), (1, .ref (A (27, gi)))]) (pc := 27) C dX11_turnFilesOf_27 (by decide) rfl ?_
            refine v_aload (pc := 29) C dX11_turnFilesOf_29 0 rfl ?_
            refine v_ifnull (pc := 31) C dX11_turnFilesOf_31 ?_
            refine v_aload (pc := 34) C dX11_turnFilesOf_34 0 rfl ?_
            refine v_get (pc := 36) C (30, i_4) (v := .ref (A (27, ((g 50 i_4 0)).toNatClampNeg))) (ck_30 (g := q_4) (vtn (hF_4 _ _ _ (by decide) (by decide) (by decide) (by decide) (by decide) (by decide) (by decide) (by decide) (by decide)) c_3)) rfl 1 (by decide) inX4 wd_709 rfl (congrArg (fun (q : Int32) => Value.ref (A (27, q.toNatClampNeg))) (show (q_4 50 i_4 0) = (g 50 i_4 0) from hF_4 _ _ _ (by decide) (by decide) (by decide) (by decide) (by decide) (by decide) (by decide) (by decide) (by decide))) dX11_turnFilesOf_36 ?_
            refine v_get (pc := 39) C (27, ((g 50 i_4 0)).toNatClampNeg) (v := .int ((g 48 ((g 50 i_4 0)).toNatClampNeg 0))) (ck_27 (g := q_4) (vtn (hF_4 _ _ _ (by decide) (by decide) (by decide) (by decide) (by decide) (by decide) (by decide) (by decide) (by decide)) (hI i_4 c_3))) rfl 0 (by decide) inX3 wd_539 rfl (congrArg Value.int (hF_4 _ _ _ (by decide) (by decide) (by decide) (by decide) (by decide) (by decide) (by decide) (by decide) (by decide))) dX11_turnFilesOf_39 ?_
            refine v_aload_n (pc := 42) C dX11_turnFilesOf_42 4 rfl rfl ?_
            refine v_get (pc := 43) C (27, gi) (v := .int ((g 48 gi 0))) (ck_27 (g := q_4) (vtn (hF_4 _ _ _ (by decide) (by decide) (by decide) (by decide) (by decide) (by decide) (by decide) (by decide) (by decide)) hg)) rfl 0 (by decide) inX3 wd_539 rfl (congrArg Value.int (hF_4 _ _ _ (by decide) (by decide) (by decide) (by decide) (by decide) (by decide) (by decide) (by decide) (by decide))) dX11_turnFilesOf_43 ?_
            refine v_icmp_ne (pc := 46) (tgt := 80) C dX11_turnFilesOf_46 (by decide) (fun c_4 => ?_) (fun c_4 => ?_)
            · skip
              refine v_iinc (v := nI (i_4 + 1)) (lv2 := [(3, .int (nI (i_4 + 1))), (4, .ref (A (30, i_4))), (2, .int (x_4_2)), (0, .ref (A (0, 0))), (1, .ref (A (27, gi)))]) (pc := 80) C dX11_turnFilesOf_80 1 rfl (nI_1 _) (by decide) rfl ?_
              refine v_goto (tgt := 4) (pc := 83) C dX11_turnFilesOf_83 (by decide) ?_
              refine v_lv (lv2 := [(3, .int (nI (i_4 + 1))), (2, .int (x_4_2)), (0, .ref (A (0, 0))), (1, .ref (A (27, gi)))]) [0, 2, 3, 4] rfl ?_
              exact ih (i_4 + 1) (x_4_2) q_4 (by (try simp only [Int32.le_iff_toInt_le, Int32.lt_iff_toInt_lt, ← Int32.toInt_inj, vp_in_iff, Int32.reduceToInt] at c_1 c_2 c_3 c_4 hq_4 hr_4 ⊢) <;> omega) (by omega) (fun c i j h51 h52 h57 h58 h60 h61 h62 h64 h65 => hF_4 c i j h51 h52 h57 h58 h60 h61 h62 h64 h65) (by rw [eV_4, VL_X11_turnFilesOf_4, if_neg c_1, if_neg c_2, if_neg c_3, if_neg c_4]) (by rw [eS_4, SL_X11_turnFilesOf_4, if_neg c_1, if_neg c_2, if_neg c_3, if_neg c_4])
            · skip
              refine v_aload (pc := 49) C dX11_turnFilesOf_49 0 rfl ?_
              refine v_get (pc := 51) C (30, i_4) (v := .int ((g 53 i_4 0))) (ck_30 (g := q_4) (vtn (hF_4 _ _ _ (by decide) (by decide) (by decide) (by decide) (by decide) (by decide) (by decide) (by decide) (by decide)) c_3)) rfl 5 (by decide) inX4 wd_715 rfl (congrArg Value.int (hF_4 _ _ _ (by decide) (by decide) (by decide) (by decide) (by decide) (by decide) (by decide) (by decide) (by decide))) dX11_turnFilesOf_51 ?_
              refine v_if_ne (pc := 54) (tgt := 80) C dX11_turnFilesOf_54 (by decide) (fun c_5 => ?_) (fun c_5 => ?_)
              · skip
                refine v_iinc (v := nI (i_4 + 1)) (lv2 := [(3, .int (nI (i_4 + 1))), (4, .ref (A (30, i_4))), (2, .int (x_4_2)), (0, .ref (A (0, 0))), (1, .ref (A (27, gi)))]) (pc := 80) C dX11_turnFilesOf_80 1 rfl (nI_1 _) (by decide) rfl ?_
                refine v_goto (tgt := 4) (pc := 83) C dX11_turnFilesOf_83 (by decide) ?_
                refine v_lv (lv2 := [(3, .int (nI (i_4 + 1))), (2, .int (x_4_2)), (0, .ref (A (0, 0))), (1, .ref (A (27, gi)))]) [0, 2, 3, 4] rfl ?_
                exact ih (i_4 + 1) (x_4_2) q_4 (by (try simp only [Int32.le_iff_toInt_le, Int32.lt_iff_toInt_lt, ← Int32.toInt_inj, vp_in_iff, Int32.reduceToInt] at c_1 c_2 c_3 c_4 c_5 hq_4 hr_4 ⊢) <;> omega) (by omega) (fun c i j h51 h52 h57 h58 h60 h61 h62 h64 h65 => hF_4 c i j h51 h52 h57 h58 h60 h61 h62 h64 h65) (by rw [eV_4, VL_X11_turnFilesOf_4, if_neg c_1, if_neg c_2, if_neg c_3, if_pos c_4, if_neg c_5]) (by rw [eS_4, SL_X11_turnFilesOf_4, if_neg c_1, if_neg c_2, if_neg c_3, if_pos c_4, if_neg c_5])
              · skip
                refine v_aload (pc := 57) C dX11_turnFilesOf_57 0 rfl ?_
                refine v_callV (pc := 59) C (30, i_4) (ck_30 (g := q_4) (vtn (hF_4 _ _ _ (by decide) (by decide) (by decide) (by decide) (by decide) (by decide) (by decide) (by decide) (by decide)) c_3)) rfl (c_X4_isSpoiled hG (i_4) (vtn (hF_4 _ _ _ (by decide) (by decide) (by decide) (by decide) (by decide) (by decide) (by decide) (by decide) (by decide)) c_3)) 0 wd_305 wd_80 wd_302 wd_303 wd_304 (by decide +kernel) (by decide) (by decide) rfl ([]) rfl (Nat.le_of_ble_eq_true rfl) (by decide) dX11_turnFilesOf_59 (fun _ _ _ q => q.elim) (fun v9 A9 h9 hR9 => ?_)
                obtain ⟨rfl, hA9, rfl⟩ := hR9
                obtain rfl := hA9.symm
                refine v_st (k2 := 0) (n2 := 0) (st2 := [.int ((V_X4_isSpoiled q_4 (i_4)))]) rfl rfl rfl ?_
                refine v_if_ne (pc := 62) (tgt := 80) C dX11_turnFilesOf_62 (by decide) (fun c_6 => ?_) (fun c_6 => ?_)
                · skip
                  refine v_iinc (v := nI (i_4 + 1)) (lv2 := [(3, .int (nI (i_4 + 1))), (4, .ref (A (30, i_4))), (2, .int (x_4_2)), (0, .ref (A (0, 0))), (1, .ref (A (27, gi)))]) (pc := 80) C dX11_turnFilesOf_80 1 rfl (nI_1 _) (by decide) rfl ?_
                  refine v_goto (tgt := 4) (pc := 83) C dX11_turnFilesOf_83 (by decide) ?_
                  refine v_lv (lv2 := [(3, .int (nI (i_4 + 1))), (2, .int (x_4_2)), (0, .ref (A (0, 0))), (1, .ref (A (27, gi)))]) [0, 2, 3, 4] rfl ?_
                  exact ih (i_4 + 1) (x_4_2) q_4 (by (try simp only [Int32.le_iff_toInt_le, Int32.lt_iff_toInt_lt, ← Int32.toInt_inj, vp_in_iff, Int32.reduceToInt] at c_1 c_2 c_3 c_4 c_5 c_6 hq_4 hr_4 ⊢) <;> omega) (by omega) (fun c i j h51 h52 h57 h58 h60 h61 h62 h64 h65 => hF_4 c i j h51 h52 h57 h58 h60 h61 h62 h64 h65) (by rw [eV_4, VL_X11_turnFilesOf_4, if_neg c_1, if_neg c_2, if_neg c_3, if_pos c_4, if_pos c_5, if_neg c_6]) (by rw [eS_4, SL_X11_turnFilesOf_4, if_neg c_1, if_neg c_2, if_neg c_3, if_pos c_4, if_pos c_5, if_neg c_6])
                · skip
                  refine v_iload_n (pc := 65) C dX11_turnFilesOf_65 2 rfl rfl ?_
                  refine v_aload (pc := 66) C dX11_turnFilesOf_66 0 rfl ?_
                  refine v_aload_n (pc := 68) C dX11_turnFilesOf_68 3 rfl rfl ?_
                  refine v_get (pc := 69) C (0, 0) (v := .ref (A (7, 0))) ck_0 rfl 4 (by decide) inX11 wd_224 rfl rfl dX11_turnFilesOf_69 ?_
                  refine v_callV (pc := 72) C (7, 0) ck_7 rfl (c_X2_moment hG  ) 0 wd_637 wd_64 wd_634 wd_635 wd_636 (by decide +kernel) (by decide) (by decide) rfl ([.ref (A (30, i_4)), .int (x_4_2)]) rfl (Nat.le_of_ble_eq_true rfl) (by decide) dX11_turnFilesOf_72 (fun _ _ _ q => q.elim) (fun v9 A9 h9 hR9 => ?_)
                  obtain ⟨rfl, hA9, rfl⟩ := hR9
                  obtain rfl := hA9.symm
                  refine v_st (k2 := 0) (n2 := 0) (st2 := [.int ((V_X2_moment q_4)), .ref (A (30, i_4)), .int (x_4_2)]) rfl rfl rfl ?_
                  refine v_callV (pc := 75) C (30, i_4) (ck_30 (g := q_4) (vtn (hF_4 _ _ _ (by decide) (by decide) (by decide) (by decide) (by decide) (by decide) (by decide) (by decide) (by decide)) c_3)) rfl (c_X4_writeAllAnew hG (i_4) ((V_X2_moment q_4)) (vtn (hF_4 _ _ _ (by decide) (by decide) (by decide) (by decide) (by decide) (by decide) (by decide) (by decide) (by decide)) c_3) (by rw [show q_4 50 i_4 0 = (g 50 i_4 0) from hF_4 _ _ _ (by decide) (by decide) (by decide) (by decide) (by decide) (by decide) (by decide) (by decide) (by decide)]; exact (vtn (hF_4 _ _ _ (by decide) (by decide) (by decide) (by decide) (by decide) (by decide) (by decide) (by decide) (by decide)) (hI i_4 c_3)))) 1 wd_641 wd_80 wd_638 wd_639 wd_640 (by decide +kernel) (by decide) (by decide) rfl ([.int (x_4_2)]) rfl (Nat.le_of_ble_eq_true rfl) (by decide) dX11_turnFilesOf_75 (fun _ _ _ q => q.elim) (fun v9 A9 h9 hR9 => ?_)
                  obtain ⟨rfl, hA9, rfl⟩ := hR9
                  obtain rfl := hA9.symm
                  refine v_st (k2 := 0) (n2 := 0) (st2 := [.int ((V_X4_writeAllAnew q_4 (i_4) ((V_X2_moment q_4)))), .int (x_4_2)]) rfl rfl rfl ?_
                  refine v_iadd (pc := 78) C dX11_turnFilesOf_78 ?_
                  refine v_istore_n (lv2 := [(2, .int ((x_4_2 + (V_X4_writeAllAnew q_4 (i_4) ((V_X2_moment q_4)))))), (4, .ref (A (30, i_4))), (3, .int (nI i_4)), (0, .ref (A (0, 0))), (1, .ref (A (27, gi)))]) (pc := 79) C dX11_turnFilesOf_79 rfl (by decide) rfl ?_
                  refine v_iinc (v := nI (i_4 + 1)) (lv2 := [(3, .int (nI (i_4 + 1))), (2, .int ((x_4_2 + (V_X4_writeAllAnew q_4 (i_4) ((V_X2_moment q_4)))))), (4, .ref (A (30, i_4))), (0, .ref (A (0, 0))), (1, .ref (A (27, gi)))]) (pc := 80) C dX11_turnFilesOf_80 2 rfl (nI_1 _) (by decide) rfl ?_
                  refine v_goto (tgt := 4) (pc := 83) C dX11_turnFilesOf_83 (by decide) ?_
                  refine v_lv (lv2 := [(3, .int (nI (i_4 + 1))), (2, .int ((x_4_2 + (V_X4_writeAllAnew q_4 (i_4) ((V_X2_moment q_4)))))), (0, .ref (A (0, 0))), (1, .ref (A (27, gi)))]) [0, 1, 3, 4] rfl ?_
                  exact ih (i_4 + 1) ((x_4_2 + (V_X4_writeAllAnew q_4 (i_4) ((V_X2_moment q_4))))) (S_X4_writeAllAnew q_4 (i_4) ((V_X2_moment q_4))) (by (try simp only [Int32.le_iff_toInt_le, Int32.lt_iff_toInt_lt, ← Int32.toInt_inj, vp_in_iff, Int32.reduceToInt] at c_1 c_2 c_3 c_4 c_5 c_6 hq_4 hr_4 ⊢) <;> omega) (by omega) (fun c i j h51 h52 h57 h58 h60 h61 h62 h64 h65 => (F_X4_writeAllAnew h51 h52 h57 h58 h60 h61 h62 h64 h65).trans (hF_4 c i j h51 h52 h57 h58 h60 h61 h62 h64 h65)) (by rw [eV_4, VL_X11_turnFilesOf_4, if_neg c_1, if_neg c_2, if_neg c_3, if_pos c_4, if_pos c_5, if_pos c_6]) (by rw [eS_4, SL_X11_turnFilesOf_4, if_neg c_1, if_neg c_2, if_neg c_3, if_pos c_4, if_pos c_5, if_pos c_6])
  exact L_4 (20 + 1) 0 (0) g (by omega) (by omega) (fun c i j h51 h52 h57 h58 h60 h61 h62 h64 h65 => rfl) (by rw [V_X11_turnFilesOf]) (by rw [S_X11_turnFilesOf])
def VL_X11_doBothWaysAgree_2 (g : vS) (f : Nat) (p : Nat) : Nat → Nat → Int32
  | 0, _ => 0
  | n + 1, i_2 => (if (g 0 0 0) ≤ nI i_2 then 1 else (if (V_X11_isKeyKnown g (nI i_2) (f) (p)) = (V_X2_isShared g ((g 48 ((g 50 f 0)).toNatClampNeg 0)) (nI i_2) ((g 60 f p))) then (VL_X11_doBothWaysAgree_2 g f p n (i_2 + 1)) else 0))
def V_X11_doBothWaysAgree (g : vS) (f : Nat) (p : Nat) : Int32 := (VL_X11_doBothWaysAgree_2 g f p (6 + 1) 0)
theorem BL_X11_doBothWaysAgree_2 {g : vS} {f : Nat} {p : Nat} : ∀ (n : Nat) (a0 : Nat), VL_X11_doBothWaysAgree_2 g f p n a0 = 0 ∨ VL_X11_doBothWaysAgree_2 g f p n a0 = 1 := by
  intro n
  induction n with
  | zero => intro a0; exact Or.inl rfl
  | succ n ih =>
    intro a0
    simp only [VL_X11_doBothWaysAgree_2]
    (repeat' split) <;> first | exact Or.inl rfl | exact Or.inr rfl | exact ih ..
theorem B_X11_doBothWaysAgree {g : vS} {f : Nat} {p : Nat} : V_X11_doBothWaysAgree g f p = 0 ∨ V_X11_doBothWaysAgree g f p = 1 := by
  unfold V_X11_doBothWaysAgree
  (repeat' split) <;> first | exact Or.inl rfl | exact Or.inr rfl | exact BL_X11_doBothWaysAgree_2 ..
set_option maxHeartbeats 4000000 in
set_option maxRecDepth 100000 in
theorem c_X11_doBothWaysAgree {G : vG} (hG : G.1.stackTraces = false) {A : vN → Nat} {g : vS} {r : vH} (f : Nat) (p : Nat) (hf : g 105 f 0 ≠ 0) (hp : p < 8) (he : g 106 f p ≠ 0) (hU : g 0 0 0 ≤ 6) (hI : vI1 g) : vCt G yX11_doBothWaysAgree cX11_doBothWaysAgree 5 (some .boolean) 3 [.ref (A (0, 0)), .ref (A (30, f)), .ref (A (32, 8 * f + p))] A (w g r) (fun v A2 h2 => v = some (.int (V_X11_doBothWaysAgree g f p)) ∧ A2 = A ∧ h2 = w g r) (vNoX) 0 0 := by
  refine v_of hG (by decide +kernel) (Nat.le_of_ble_eq_true rfl) (lv := [(0, .ref (A (0, 0))), (1, .ref (A (30, f))), (2, .ref (A (32, 8 * f + p)))]) rfl (fun X C hnx => ?_)
  have C : vC G X cX11_doBothWaysAgree 5 RX11 (some .boolean) "doBothWaysAgree" 3 0 0 := C
  refine v_iconst (v := 0) (pc := 0) C dX11_doBothWaysAgree_0 rfl ?_
  refine v_istore_n (lv2 := [(3, .int (0)), (0, .ref (A (0, 0))), (1, .ref (A (30, f))), (2, .ref (A (32, 8 * f + p)))]) (pc := 1) C dX11_doBothWaysAgree_1 rfl (by decide) rfl ?_
  have L_2 : ∀ (n : Nat) (i_2 : Nat), i_2 ≤ 6 → 6 + 1 ≤ i_2 + n → (V_X11_doBothWaysAgree g f p) = VL_X11_doBothWaysAgree_2 g f p n i_2 → V G 5 X A (w g r) 0 0 (vM G X (fun v A2 h2 => v = some (.int (V_X11_doBothWaysAgree g f p)) ∧ A2 = A ∧ h2 = w g r) (vNoX) 0 0) 2 [(3, .int (nI i_2)), (0, .ref (A (0, 0))), (1, .ref (A (30, f))), (2, .ref (A (32, 8 * f + p)))] [] := by
    intro n
    induction n with
    | zero => intro i_2 hi_2 hc_2 eV_2; exact absurd hc_2 (by omega)
    | succ n ih =>
      intro i_2 hi_2 hc_2 eV_2
      have hq_2 : (nI i_2).toInt = (i_2 : Int) := nI_toInt (by omega)
      have hr_2 : (nI (i_2 + 1)).toInt = ((i_2 + 1 : Nat) : Int) := nI_toInt (by omega)
      refine v_iload_n (pc := 2) C dX11_doBothWaysAgree_2 0 rfl rfl ?_
      refine v_aload_n (pc := 3) C dX11_doBothWaysAgree_3 1 rfl rfl ?_
      refine v_get (pc := 4) C (0, 0) (v := .int ((g 0 0 0))) ck_0 rfl 8 (by decide) inX11 wd_228 rfl rfl dX11_doBothWaysAgree_4 ?_
      refine v_icmp_ge (pc := 7) (tgt := 51) C dX11_doBothWaysAgree_7 (by decide) (fun c_1 => ?_) (fun c_1 => ?_)
      · skip
        refine v_iconst (v := 1) (pc := 51) C dX11_doBothWaysAgree_51 rfl ?_
        exact v_zret (pc := 52) C rfl (by decide) (by decide) dX11_doBothWaysAgree_52 ⟨(congrArg (fun q => some (Value.int q)) (by show _ = _; rw [eV_2, VL_X11_doBothWaysAgree_2, if_pos c_1])), rfl, rfl⟩
      · skip
        refine v_aload_n (pc := 10) C dX11_doBothWaysAgree_10 1 rfl rfl ?_
        refine v_get (pc := 11) C (0, 0) (v := .ref (A (7, 0))) ck_0 rfl 4 (by decide) inX11 wd_224 rfl rfl dX11_doBothWaysAgree_11 ?_
        refine v_aload_n (pc := 14) C dX11_doBothWaysAgree_14 2 rfl rfl ?_
        refine v_get (pc := 15) C (30, f) (v := .ref (A (27, ((g 50 f 0)).toNatClampNeg))) (ck_30 (g := g) hf) rfl 1 (by decide) inX4 wd_709 rfl rfl dX11_doBothWaysAgree_15 ?_
        refine v_get (pc := 18) C (27, ((g 50 f 0)).toNatClampNeg) (v := .int ((g 48 ((g 50 f 0)).toNatClampNeg 0))) (ck_27 (g := g) (hI f hf)) rfl 0 (by decide) inX3 wd_539 rfl rfl dX11_doBothWaysAgree_18 ?_
        refine v_iload_n (pc := 21) C dX11_doBothWaysAgree_21 0 rfl rfl ?_
        refine v_aload_n (pc := 22) C dX11_doBothWaysAgree_22 3 rfl rfl ?_
        refine v_get (pc := 23) C (32, 8 * f + p) (v := .int ((g 60 f p))) (ck_32 (g := g) hp he) rfl 7 (by decide) inX6 wd_793 rfl rfl dX11_doBothWaysAgree_23 ?_
        refine v_callV (pc := 26) C (7, 0) ck_7 rfl (c_X2_isShared hG ((g 48 ((g 50 f 0)).toNatClampNeg 0)) (nI i_2) ((g 60 f p)) ) 3 wd_337 wd_64 wd_334 wd_335 wd_336 (by decide +kernel) (by decide) (by decide) rfl ([]) rfl (Nat.le_of_ble_eq_true rfl) (by decide) dX11_doBothWaysAgree_26 (fun _ _ _ q => q.elim) (fun v9 A9 h9 hR9 => ?_)
        obtain ⟨rfl, hA9, rfl⟩ := hR9
        obtain rfl := hA9.symm
        refine v_st (k2 := 0) (n2 := 0) (st2 := [.int ((V_X2_isShared g ((g 48 ((g 50 f 0)).toNatClampNeg 0)) (nI i_2) ((g 60 f p))))]) rfl rfl rfl ?_
        refine v_istore (lv2 := [(4, .int ((V_X2_isShared g ((g 48 ((g 50 f 0)).toNatClampNeg 0)) (nI i_2) ((g 60 f p))))), (3, .int (nI i_2)), (0, .ref (A (0, 0))), (1, .ref (A (30, f))), (2, .ref (A (32, 8 * f + p)))]) (pc := 29) C dX11_doBothWaysAgree_29 (by decide) rfl ?_
        refine v_aload_n (pc := 31) C dX11_doBothWaysAgree_31 2 rfl rfl ?_
        refine v_iload_n (pc := 32) C dX11_doBothWaysAgree_32 1 rfl rfl ?_
        refine v_aload_n (pc := 33) C dX11_doBothWaysAgree_33 3 rfl rfl ?_
        refine v_aload_n (pc := 34) C dX11_doBothWaysAgree_34 4 rfl rfl ?_
        refine v_callV (pc := 35) C (0, 0) ck_0 rfl (c_X11_isKeyKnown hG (nI i_2) (f) (p) hf hp he hI) 3 wd_341 wd_62 wd_338 wd_340 wd_3 (by decide +kernel) (by decide) (by decide) rfl ([]) rfl (Nat.le_of_ble_eq_true rfl) (by decide) dX11_doBothWaysAgree_35 (fun _ _ _ q => q.elim) (fun v9 A9 h9 hR9 => ?_)
        obtain ⟨rfl, hA9, rfl⟩ := hR9
        obtain rfl := hA9.symm
        refine v_st (k2 := 0) (n2 := 0) (st2 := [.int ((V_X11_isKeyKnown g (nI i_2) (f) (p)))]) rfl rfl rfl ?_
        refine v_iload (pc := 38) C dX11_doBothWaysAgree_38 0 rfl ?_
        refine v_icmp_eq (pc := 40) (tgt := 45) C dX11_doBothWaysAgree_40 (by decide) (fun c_2 => ?_) (fun c_2 => ?_)
        · skip
          refine v_iinc (v := nI (i_2 + 1)) (lv2 := [(3, .int (nI (i_2 + 1))), (4, .int ((V_X2_isShared g ((g 48 ((g 50 f 0)).toNatClampNeg 0)) (nI i_2) ((g 60 f p))))), (0, .ref (A (0, 0))), (1, .ref (A (30, f))), (2, .ref (A (32, 8 * f + p)))]) (pc := 45) C dX11_doBothWaysAgree_45 1 rfl (nI_1 _) (by decide) rfl ?_
          refine v_goto (tgt := 2) (pc := 48) C dX11_doBothWaysAgree_48 (by decide) ?_
          refine v_lv (lv2 := [(3, .int (nI (i_2 + 1))), (0, .ref (A (0, 0))), (1, .ref (A (30, f))), (2, .ref (A (32, 8 * f + p)))]) [0, 2, 3, 4] rfl ?_
          exact ih (i_2 + 1) (by (try simp only [Int32.le_iff_toInt_le, Int32.lt_iff_toInt_lt, ← Int32.toInt_inj, vp_in_iff, Int32.reduceToInt] at c_1 c_2 hq_2 hr_2 hU ⊢) <;> omega) (by omega)  (by rw [eV_2, VL_X11_doBothWaysAgree_2, if_neg c_1, if_pos c_2])
        · skip
          refine v_iconst (v := 0) (pc := 43) C dX11_doBothWaysAgree_43 rfl ?_
          exact v_zret (pc := 44) C rfl (by decide) (by decide) dX11_doBothWaysAgree_44 ⟨(congrArg (fun q => some (Value.int q)) (by show _ = _; rw [eV_2, VL_X11_doBothWaysAgree_2, if_neg c_1, if_neg c_2])), rfl, rfl⟩
  exact L_2 (6 + 1) 0 (by omega) (by omega)  (by rw [V_X11_doBothWaysAgree])
def VL_X11_isFileSound_22 (g : vS) (f : Nat) : Nat → Nat → Int32 → Int32
  | 0, _, _ => 0
  | n + 1, i_22, x_22_2 => (if 8 ≤ nI i_22 then 1 else (if nI i_22 < 0 then (VL_X11_isFileSound_22 g f n (i_22 + 1) (x_22_2)) else (if 8 ≤ nI i_22 then (VL_X11_isFileSound_22 g f n (i_22 + 1) (x_22_2)) else (if (g 106 f i_22) = 0 then (VL_X11_isFileSound_22 g f n (i_22 + 1) (x_22_2)) else (if x_22_2 = 0 then (if (V_X11_doBothWaysAgree g (f) (i_22)) = 0 then 0 else (VL_X11_isFileSound_22 g f n (i_22 + 1) (x_22_2))) else (if (V_X6_opened g (f) (i_22)) = (g 59 f i_22) then (if (V_X11_doBothWaysAgree g (f) (i_22)) = 0 then 0 else (VL_X11_isFileSound_22 g f n (i_22 + 1) (x_22_2))) else 0))))))
def V_X11_isFileSound (g : vS) (f : Nat) : Int32 := (if (g 53 f 0) = 0 then (if (V_X4_isSpoiled g (f)) = 0 then (VL_X11_isFileSound_22 g f (8 + 1) 0 (1)) else (VL_X11_isFileSound_22 g f (8 + 1) 0 (0))) else (VL_X11_isFileSound_22 g f (8 + 1) 0 (0)))
theorem BL_X11_isFileSound_22 {g : vS} {f : Nat} : ∀ (n : Nat) (a0 : Nat) (a1 : Int32), VL_X11_isFileSound_22 g f n a0 a1 = 0 ∨ VL_X11_isFileSound_22 g f n a0 a1 = 1 := by
  intro n
  induction n with
  | zero => intro a0 a1; exact Or.inl rfl
  | succ n ih =>
    intro a0 a1
    simp only [VL_X11_isFileSound_22]
    (repeat' split) <;> first | exact Or.inl rfl | exact Or.inr rfl | exact ih ..
theorem B_X11_isFileSound {g : vS} {f : Nat} : V_X11_isFileSound g f = 0 ∨ V_X11_isFileSound g f = 1 := by
  unfold V_X11_isFileSound
  (repeat' split) <;> first | exact Or.inl rfl | exact Or.inr rfl | exact BL_X11_isFileSound_22 ..
set_option maxHeartbeats 4000000 in
set_option maxRecDepth 100000 in
theorem c_X11_isFileSound {G : vG} (hG : G.1.stackTraces = false) {A : vN → Nat} {g : vS} {r : vH} (f : Nat) (hf : g 105 f 0 ≠ 0) (hU : g 0 0 0 ≤ 6) (hI : vI1 g) : vCt G yX11_isFileSound cX11_isFileSound 5 (some .boolean) 4 [.ref (A (0, 0)), .ref (A (30, f))] A (w g r) (fun v A2 h2 => v = some (.int (V_X11_isFileSound g f)) ∧ A2 = A ∧ h2 = w g r) (vNoX) 0 0 := by
  refine v_of hG (by decide +kernel) (Nat.le_of_ble_eq_true rfl) (lv := [(0, .ref (A (0, 0))), (1, .ref (A (30, f)))]) rfl (fun X C hnx => ?_)
  have C : vC G X cX11_isFileSound 5 RX11 (some .boolean) "isFileSound" 4 0 0 := C
  refine v_aload_n (pc := 0) C dX11_isFileSound_0 1 rfl rfl ?_
  refine v_get (pc := 1) C (30, f) (v := .int ((g 53 f 0))) (ck_30 (g := g) hf) rfl 5 (by decide) inX4 wd_715 rfl rfl dX11_isFileSound_1 ?_
  refine v_if_ne (pc := 4) (tgt := 18) C dX11_isFileSound_4 (by decide) (fun c_1 => ?_) (fun c_1 => ?_)
  · skip
    refine v_iconst (v := 0) (pc := 18) C dX11_isFileSound_18 rfl ?_
    refine v_istore_n (lv2 := [(2, .int (0)), (0, .ref (A (0, 0))), (1, .ref (A (30, f)))]) (pc := 19) C dX11_isFileSound_19 rfl (by decide) rfl ?_
    refine v_iconst (v := 0) (pc := 20) C dX11_isFileSound_20 rfl ?_
    refine v_istore_n (lv2 := [(3, .int (0)), (2, .int (0)), (0, .ref (A (0, 0))), (1, .ref (A (30, f)))]) (pc := 21) C dX11_isFileSound_21 rfl (by decide) rfl ?_
    have L_22 : ∀ (n : Nat) (i_22 : Nat) (x_22_2 : Int32), i_22 ≤ 8 → 8 + 1 ≤ i_22 + n → (V_X11_isFileSound g f) = VL_X11_isFileSound_22 g f n i_22 x_22_2 → V G 5 X A (w g r) 0 0 (vM G X (fun v A2 h2 => v = some (.int (V_X11_isFileSound g f)) ∧ A2 = A ∧ h2 = w g r) (vNoX) 0 0) 22 [(3, .int (nI i_22)), (2, .int (x_22_2)), (0, .ref (A (0, 0))), (1, .ref (A (30, f)))] [] := by
      intro n
      induction n with
      | zero => intro i_22 x_22_2 hi_22 hc_22 eV_22; exact absurd hc_22 (by omega)
      | succ n ih =>
        intro i_22 x_22_2 hi_22 hc_22 eV_22
        have hq_22 : (nI i_22).toInt = (i_22 : Int) := nI_toInt (by omega)
        have hr_22 : (nI (i_22 + 1)).toInt = ((i_22 + 1 : Nat) : Int) := nI_toInt (by omega)
        refine v_iload_n (pc := 22) C dX11_isFileSound_22 0 rfl rfl ?_
        refine v_bipush (v := 8) (pc := 23) C dX11_isFileSound_23 (by decide) ?_
        refine v_icmp_ge (pc := 25) (tgt := 77) C dX11_isFileSound_25 (by decide) (fun c_2 => ?_) (fun c_2 => ?_)
        · skip
          refine v_iconst (v := 1) (pc := 77) C dX11_isFileSound_77 rfl ?_
          exact v_zret (pc := 78) C rfl (by decide) (by decide) dX11_isFileSound_78 ⟨(congrArg (fun q => some (Value.int q)) (by show _ = _; rw [eV_22, VL_X11_isFileSound_22, if_pos c_2])), rfl, rfl⟩
        · skip
          refine v_aload_n (pc := 28) C dX11_isFileSound_28 3 rfl rfl ?_
          refine v_iload_n (pc := 29) C dX11_isFileSound_29 0 rfl rfl ?_
          refine v_callV (pc := 30) C (30, f) (ck_30 (g := g) hf) rfl (c_X4_partAt hG (f) (nI i_22) hf) 1 wd_321 wd_80 wd_318 wd_319 wd_320 (by decide +kernel) (by decide) (by decide) rfl ([]) rfl (Nat.le_of_ble_eq_true rfl) (by decide) dX11_isFileSound_30 (fun _ _ _ q => q.elim) (fun v9 A9 h9 hR9 => ?_)
          obtain ⟨rfl, hA9, rfl⟩ := hR9
          obtain rfl := hA9.symm
          rcases Classical.em (nI i_22 < 0) with c_3 | c_3
          · skip
            refine v_st (k2 := 0) (n2 := 0) (st2 := [.null]) rfl rfl (by show vRq A (Q_X4_partAt g (f) (nI i_22)) :: _ = _; rw [Q_X4_partAt]; rw [if_pos c_3]; rfl) ?_
            refine v_astoreN (lv2 := [(4, .null), (3, .int (nI i_22)), (2, .int (x_22_2)), (0, .ref (A (0, 0))), (1, .ref (A (30, f)))]) (pc := 33) C dX11_isFileSound_33 (by decide) rfl ?_
            refine v_aloadN (pc := 35) C dX11_isFileSound_35 0 rfl ?_
            refine v_ifnullN (tgt := 71) (pc := 37) C dX11_isFileSound_37 (by decide) ?_
            refine v_iinc (v := nI (i_22 + 1)) (lv2 := [(3, .int (nI (i_22 + 1))), (4, .null), (2, .int (x_22_2)), (0, .ref (A (0, 0))), (1, .ref (A (30, f)))]) (pc := 71) C dX11_isFileSound_71 1 rfl (nI_1 _) (by decide) rfl ?_
            refine v_goto (tgt := 22) (pc := 74) C dX11_isFileSound_74 (by decide) ?_
            refine v_lv (lv2 := [(3, .int (nI (i_22 + 1))), (2, .int (x_22_2)), (0, .ref (A (0, 0))), (1, .ref (A (30, f)))]) [0, 2, 3, 4] rfl ?_
            exact ih (i_22 + 1) (x_22_2) (by (try simp only [Int32.le_iff_toInt_le, Int32.lt_iff_toInt_lt, ← Int32.toInt_inj, vp_in_iff, Int32.reduceToInt] at c_1 c_2 c_3 hq_22 hr_22 ⊢) <;> omega) (by omega)  (by rw [eV_22, VL_X11_isFileSound_22, if_neg c_2, if_pos c_3])
          · skip
            rcases Classical.em (8 ≤ nI i_22) with c_4 | c_4
            · skip
              refine v_st (k2 := 0) (n2 := 0) (st2 := [.null]) rfl rfl (by show vRq A (Q_X4_partAt g (f) (nI i_22)) :: _ = _; rw [Q_X4_partAt]; rw [if_neg c_3, if_pos c_4]; rfl) ?_
              refine v_astoreN (lv2 := [(4, .null), (3, .int (nI i_22)), (2, .int (x_22_2)), (0, .ref (A (0, 0))), (1, .ref (A (30, f)))]) (pc := 33) C dX11_isFileSound_33 (by decide) rfl ?_
              refine v_aloadN (pc := 35) C dX11_isFileSound_35 0 rfl ?_
              refine v_ifnullN (tgt := 71) (pc := 37) C dX11_isFileSound_37 (by decide) ?_
              refine v_iinc (v := nI (i_22 + 1)) (lv2 := [(3, .int (nI (i_22 + 1))), (4, .null), (2, .int (x_22_2)), (0, .ref (A (0, 0))), (1, .ref (A (30, f)))]) (pc := 71) C dX11_isFileSound_71 1 rfl (nI_1 _) (by decide) rfl ?_
              refine v_goto (tgt := 22) (pc := 74) C dX11_isFileSound_74 (by decide) ?_
              refine v_lv (lv2 := [(3, .int (nI (i_22 + 1))), (2, .int (x_22_2)), (0, .ref (A (0, 0))), (1, .ref (A (30, f)))]) [0, 2, 3, 4] rfl ?_
              exact ih (i_22 + 1) (x_22_2) (by (try simp only [Int32.le_iff_toInt_le, Int32.lt_iff_toInt_lt, ← Int32.toInt_inj, vp_in_iff, Int32.reduceToInt] at c_1 c_2 c_3 c_4 hq_22 hr_22 ⊢) <;> omega) (by omega)  (by rw [eV_22, VL_X11_isFileSound_22, if_neg c_2, if_neg c_3, if_pos c_4])
            · skip
              rcases Classical.em ((g 106 f i_22) = 0) with c_5 | c_5
              · skip
                refine v_st (k2 := 0) (n2 := 0) (st2 := [.null]) rfl rfl (by show vRq A (Q_X4_partAt g (f) (nI i_22)) :: _ = _; rw [Q_X4_partAt]; simp only [show (nI i_22 : Int32).toNatClampNeg = i_22 from (nI_clamp (by omega))]; rw [if_neg c_3, if_neg c_4, if_pos c_5]; rfl) ?_
                refine v_astoreN (lv2 := [(4, .null), (3, .int (nI i_22)), (2, .int (x_22_2)), (0, .ref (A (0, 0))), (1, .ref (A (30, f)))]) (pc := 33) C dX11_isFileSound_33 (by decide) rfl ?_
                refine v_aloadN (pc := 35) C dX11_isFileSound_35 0 rfl ?_
                refine v_ifnullN (tgt := 71) (pc := 37) C dX11_isFileSound_37 (by decide) ?_
                refine v_iinc (v := nI (i_22 + 1)) (lv2 := [(3, .int (nI (i_22 + 1))), (4, .null), (2, .int (x_22_2)), (0, .ref (A (0, 0))), (1, .ref (A (30, f)))]) (pc := 71) C dX11_isFileSound_71 1 rfl (nI_1 _) (by decide) rfl ?_
                refine v_goto (tgt := 22) (pc := 74) C dX11_isFileSound_74 (by decide) ?_
                refine v_lv (lv2 := [(3, .int (nI (i_22 + 1))), (2, .int (x_22_2)), (0, .ref (A (0, 0))), (1, .ref (A (30, f)))]) [0, 2, 3, 4] rfl ?_
                exact ih (i_22 + 1) (x_22_2) (by (try simp only [Int32.le_iff_toInt_le, Int32.lt_iff_toInt_lt, ← Int32.toInt_inj, vp_in_iff, Int32.reduceToInt] at c_1 c_2 c_3 c_4 c_5 hq_22 hr_22 ⊢) <;> omega) (by omega)  (by rw [eV_22, VL_X11_isFileSound_22, if_neg c_2, if_neg c_3, if_neg c_4, if_pos c_5])
              · skip
                refine v_st (k2 := 0) (n2 := 0) (st2 := [.ref (A (32, 8 * f + i_22))]) rfl rfl (by show vRq A (Q_X4_partAt g (f) (nI i_22)) :: _ = _; rw [Q_X4_partAt]; simp only [show (nI i_22 : Int32).toNatClampNeg = i_22 from (nI_clamp (by omega))]; rw [if_neg c_3, if_neg c_4, if_neg c_5]; rfl) ?_
                refine v_astore (lv2 := [(4, .ref (A (32, 8 * f + i_22))), (3, .int (nI i_22)), (2, .int (x_22_2)), (0, .ref (A (0, 0))), (1, .ref (A (30, f)))]) (pc := 33) C dX11_isFileSound_33 (by decide) rfl ?_
                refine v_aload (pc := 35) C dX11_isFileSound_35 0 rfl ?_
                refine v_ifnull (pc := 37) C dX11_isFileSound_37 ?_
                refine v_iload_n (pc := 40) C dX11_isFileSound_40 2 rfl rfl ?_
                refine v_if_eq (pc := 41) (tgt := 59) C dX11_isFileSound_41 (by decide) (fun c_6 => ?_) (fun c_6 => ?_)
                · skip
                  refine v_aload_n (pc := 59) C dX11_isFileSound_59 3 rfl rfl ?_
                  refine v_aload_n (pc := 60) C dX11_isFileSound_60 4 rfl rfl ?_
                  refine v_aload (pc := 61) C dX11_isFileSound_61 0 rfl ?_
                  refine v_callV (pc := 63) C (0, 0) ck_0 rfl (c_X11_doBothWaysAgree hG (f) (i_22) hf (by simp only [Int32.le_iff_toInt_le, Int32.lt_iff_toInt_lt, ← Int32.toInt_inj, Int32.reduceToInt] at c_1 c_2 c_3 c_4 c_5 hq_22 hr_22; omega) c_5 hU hI) 2 wd_333 wd_62 wd_330 wd_332 wd_2 (by decide +kernel) (by decide) (by decide) rfl ([]) rfl (Nat.le_of_ble_eq_true rfl) (by decide) dX11_isFileSound_63 (fun _ _ _ q => q.elim) (fun v9 A9 h9 hR9 => ?_)
                  obtain ⟨rfl, hA9, rfl⟩ := hR9
                  obtain rfl := hA9.symm
                  refine v_st (k2 := 0) (n2 := 0) (st2 := [.int ((V_X11_doBothWaysAgree g (f) (i_22)))]) rfl rfl rfl ?_
                  refine v_if_ne (pc := 66) (tgt := 71) C dX11_isFileSound_66 (by decide) (fun c_7 => ?_) (fun c_7 => ?_)
                  · skip
                    refine v_iinc (v := nI (i_22 + 1)) (lv2 := [(3, .int (nI (i_22 + 1))), (4, .ref (A (32, 8 * f + i_22))), (2, .int (x_22_2)), (0, .ref (A (0, 0))), (1, .ref (A (30, f)))]) (pc := 71) C dX11_isFileSound_71 1 rfl (nI_1 _) (by decide) rfl ?_
                    refine v_goto (tgt := 22) (pc := 74) C dX11_isFileSound_74 (by decide) ?_
                    refine v_lv (lv2 := [(3, .int (nI (i_22 + 1))), (2, .int (x_22_2)), (0, .ref (A (0, 0))), (1, .ref (A (30, f)))]) [0, 2, 3, 4] rfl ?_
                    exact ih (i_22 + 1) (x_22_2) (by (try simp only [Int32.le_iff_toInt_le, Int32.lt_iff_toInt_lt, ← Int32.toInt_inj, vp_in_iff, Int32.reduceToInt] at c_1 c_2 c_3 c_4 c_5 c_6 c_7 hq_22 hr_22 ⊢) <;> omega) (by omega)  (by rw [eV_22, VL_X11_isFileSound_22, if_neg c_2, if_neg c_3, if_neg c_4, if_neg c_5, if_pos c_6, if_neg c_7])
                  · skip
                    refine v_iconst (v := 0) (pc := 69) C dX11_isFileSound_69 rfl ?_
                    exact v_zret (pc := 70) C rfl (by decide) (by decide) dX11_isFileSound_70 ⟨(congrArg (fun q => some (Value.int q)) (by show _ = _; rw [eV_22, VL_X11_isFileSound_22, if_neg c_2, if_neg c_3, if_neg c_4, if_neg c_5, if_pos c_6, if_pos c_7])), rfl, rfl⟩
                · skip
                  refine v_aload (pc := 44) C dX11_isFileSound_44 0 rfl ?_
                  refine v_callV (pc := 46) C (32, 8 * f + i_22) (ck_32 (g := g) (by simp only [Int32.le_iff_toInt_le, Int32.lt_iff_toInt_lt, ← Int32.toInt_inj, Int32.reduceToInt] at c_1 c_2 c_3 c_4 c_5 hq_22 hr_22; omega) c_5) rfl (c_X6_opened hG (f) (i_22) (by simp only [Int32.le_iff_toInt_le, Int32.lt_iff_toInt_lt, ← Int32.toInt_inj, Int32.reduceToInt] at c_1 c_2 c_3 c_4 c_5 hq_22 hr_22; omega) c_5) 0 wd_325 wd_81 wd_322 wd_323 wd_324 (by decide +kernel) (by decide) (by decide) rfl ([]) rfl (Nat.le_of_ble_eq_true rfl) (by decide) dX11_isFileSound_46 (fun _ _ _ q => q.elim) (fun v9 A9 h9 hR9 => ?_)
                  obtain ⟨rfl, hA9, rfl⟩ := hR9
                  obtain rfl := hA9.symm
                  refine v_st (k2 := 0) (n2 := 0) (st2 := [.int ((V_X6_opened g (f) (i_22)))]) rfl rfl rfl ?_
                  refine v_aload (pc := 49) C dX11_isFileSound_49 0 rfl ?_
                  refine v_get (pc := 51) C (32, 8 * f + i_22) (v := .int ((g 59 f i_22))) (ck_32 (g := g) (by simp only [Int32.le_iff_toInt_le, Int32.lt_iff_toInt_lt, ← Int32.toInt_inj, Int32.reduceToInt] at c_1 c_2 c_3 c_4 c_5 hq_22 hr_22; omega) c_5) rfl 1 (by decide) inX6 wd_781 rfl rfl dX11_isFileSound_51 ?_
                  refine v_icmp_eq (pc := 54) (tgt := 59) C dX11_isFileSound_54 (by decide) (fun c_8 => ?_) (fun c_8 => ?_)
                  · skip
                    refine v_aload_n (pc := 59) C dX11_isFileSound_59 3 rfl rfl ?_
                    refine v_aload_n (pc := 60) C dX11_isFileSound_60 4 rfl rfl ?_
                    refine v_aload (pc := 61) C dX11_isFileSound_61 0 rfl ?_
                    refine v_callV (pc := 63) C (0, 0) ck_0 rfl (c_X11_doBothWaysAgree hG (f) (i_22) hf (by simp only [Int32.le_iff_toInt_le, Int32.lt_iff_toInt_lt, ← Int32.toInt_inj, Int32.reduceToInt] at c_1 c_2 c_3 c_4 c_5 hq_22 hr_22; omega) c_5 hU hI) 2 wd_333 wd_62 wd_330 wd_332 wd_2 (by decide +kernel) (by decide) (by decide) rfl ([]) rfl (Nat.le_of_ble_eq_true rfl) (by decide) dX11_isFileSound_63 (fun _ _ _ q => q.elim) (fun v9 A9 h9 hR9 => ?_)
                    obtain ⟨rfl, hA9, rfl⟩ := hR9
                    obtain rfl := hA9.symm
                    refine v_st (k2 := 0) (n2 := 0) (st2 := [.int ((V_X11_doBothWaysAgree g (f) (i_22)))]) rfl rfl rfl ?_
                    refine v_if_ne (pc := 66) (tgt := 71) C dX11_isFileSound_66 (by decide) (fun c_9 => ?_) (fun c_9 => ?_)
                    · skip
                      refine v_iinc (v := nI (i_22 + 1)) (lv2 := [(3, .int (nI (i_22 + 1))), (4, .ref (A (32, 8 * f + i_22))), (2, .int (x_22_2)), (0, .ref (A (0, 0))), (1, .ref (A (30, f)))]) (pc := 71) C dX11_isFileSound_71 1 rfl (nI_1 _) (by decide) rfl ?_
                      refine v_goto (tgt := 22) (pc := 74) C dX11_isFileSound_74 (by decide) ?_
                      refine v_lv (lv2 := [(3, .int (nI (i_22 + 1))), (2, .int (x_22_2)), (0, .ref (A (0, 0))), (1, .ref (A (30, f)))]) [0, 2, 3, 4] rfl ?_
                      exact ih (i_22 + 1) (x_22_2) (by (try simp only [Int32.le_iff_toInt_le, Int32.lt_iff_toInt_lt, ← Int32.toInt_inj, vp_in_iff, Int32.reduceToInt] at c_1 c_2 c_3 c_4 c_5 c_6 c_8 c_9 hq_22 hr_22 ⊢) <;> omega) (by omega)  (by rw [eV_22, VL_X11_isFileSound_22, if_neg c_2, if_neg c_3, if_neg c_4, if_neg c_5, if_neg c_6, if_pos c_8, if_neg c_9])
                    · skip
                      refine v_iconst (v := 0) (pc := 69) C dX11_isFileSound_69 rfl ?_
                      exact v_zret (pc := 70) C rfl (by decide) (by decide) dX11_isFileSound_70 ⟨(congrArg (fun q => some (Value.int q)) (by show _ = _; rw [eV_22, VL_X11_isFileSound_22, if_neg c_2, if_neg c_3, if_neg c_4, if_neg c_5, if_neg c_6, if_pos c_8, if_pos c_9])), rfl, rfl⟩
                  · skip
                    refine v_iconst (v := 0) (pc := 57) C dX11_isFileSound_57 rfl ?_
                    exact v_zret (pc := 58) C rfl (by decide) (by decide) dX11_isFileSound_58 ⟨(congrArg (fun q => some (Value.int q)) (by show _ = _; rw [eV_22, VL_X11_isFileSound_22, if_neg c_2, if_neg c_3, if_neg c_4, if_neg c_5, if_neg c_6, if_neg c_8])), rfl, rfl⟩
    exact L_22 (8 + 1) 0 (0) (by omega) (by omega)  (by rw [V_X11_isFileSound, if_neg c_1])
  · skip
    refine v_aload_n (pc := 7) C dX11_isFileSound_7 1 rfl rfl ?_
    refine v_callV (pc := 8) C (30, f) (ck_30 (g := g) hf) rfl (c_X4_isSpoiled hG (f) hf) 0 wd_305 wd_80 wd_302 wd_303 wd_304 (by decide +kernel) (by decide) (by decide) rfl ([]) rfl (Nat.le_of_ble_eq_true rfl) (by decide) dX11_isFileSound_8 (fun _ _ _ q => q.elim) (fun v9 A9 h9 hR9 => ?_)
    obtain ⟨rfl, hA9, rfl⟩ := hR9
    obtain rfl := hA9.symm
    refine v_st (k2 := 0) (n2 := 0) (st2 := [.int ((V_X4_isSpoiled g (f)))]) rfl rfl rfl ?_
    refine v_if_ne (pc := 11) (tgt := 18) C dX11_isFileSound_11 (by decide) (fun c_10 => ?_) (fun c_10 => ?_)
    · skip
      refine v_iconst (v := 0) (pc := 18) C dX11_isFileSound_18 rfl ?_
      refine v_istore_n (lv2 := [(2, .int (0)), (0, .ref (A (0, 0))), (1, .ref (A (30, f)))]) (pc := 19) C dX11_isFileSound_19 rfl (by decide) rfl ?_
      refine v_iconst (v := 0) (pc := 20) C dX11_isFileSound_20 rfl ?_
      refine v_istore_n (lv2 := [(3, .int (0)), (2, .int (0)), (0, .ref (A (0, 0))), (1, .ref (A (30, f)))]) (pc := 21) C dX11_isFileSound_21 rfl (by decide) rfl ?_
      have L_22 : ∀ (n : Nat) (i_22 : Nat) (x_22_2 : Int32), i_22 ≤ 8 → 8 + 1 ≤ i_22 + n → (V_X11_isFileSound g f) = VL_X11_isFileSound_22 g f n i_22 x_22_2 → V G 5 X A (w g r) 0 0 (vM G X (fun v A2 h2 => v = some (.int (V_X11_isFileSound g f)) ∧ A2 = A ∧ h2 = w g r) (vNoX) 0 0) 22 [(3, .int (nI i_22)), (2, .int (x_22_2)), (0, .ref (A (0, 0))), (1, .ref (A (30, f)))] [] := by
        intro n
        induction n with
        | zero => intro i_22 x_22_2 hi_22 hc_22 eV_22; exact absurd hc_22 (by omega)
        | succ n ih =>
          intro i_22 x_22_2 hi_22 hc_22 eV_22
          have hq_22 : (nI i_22).toInt = (i_22 : Int) := nI_toInt (by omega)
          have hr_22 : (nI (i_22 + 1)).toInt = ((i_22 + 1 : Nat) : Int) := nI_toInt (by omega)
          refine v_iload_n (pc := 22) C dX11_isFileSound_22 0 rfl rfl ?_
          refine v_bipush (v := 8) (pc := 23) C dX11_isFileSound_23 (by decide) ?_
          refine v_icmp_ge (pc := 25) (tgt := 77) C dX11_isFileSound_25 (by decide) (fun c_11 => ?_) (fun c_11 => ?_)
          · skip
            refine v_iconst (v := 1) (pc := 77) C dX11_isFileSound_77 rfl ?_
            exact v_zret (pc := 78) C rfl (by decide) (by decide) dX11_isFileSound_78 ⟨(congrArg (fun q => some (Value.int q)) (by show _ = _; rw [eV_22, VL_X11_isFileSound_22, if_pos c_11])), rfl, rfl⟩
          · skip
            refine v_aload_n (pc := 28) C dX11_isFileSound_28 3 rfl rfl ?_
            refine v_iload_n (pc := 29) C dX11_isFileSound_29 0 rfl rfl ?_
            refine v_callV (pc := 30) C (30, f) (ck_30 (g := g) hf) rfl (c_X4_partAt hG (f) (nI i_22) hf) 1 wd_321 wd_80 wd_318 wd_319 wd_320 (by decide +kernel) (by decide) (by decide) rfl ([]) rfl (Nat.le_of_ble_eq_true rfl) (by decide) dX11_isFileSound_30 (fun _ _ _ q => q.elim) (fun v9 A9 h9 hR9 => ?_)
            obtain ⟨rfl, hA9, rfl⟩ := hR9
            obtain rfl := hA9.symm
            rcases Classical.em (nI i_22 < 0) with c_12 | c_12
            · skip
              refine v_st (k2 := 0) (n2 := 0) (st2 := [.null]) rfl rfl (by show vRq A (Q_X4_partAt g (f) (nI i_22)) :: _ = _; rw [Q_X4_partAt]; rw [if_pos c_12]; rfl) ?_
              refine v_astoreN (lv2 := [(4, .null), (3, .int (nI i_22)), (2, .int (x_22_2)), (0, .ref (A (0, 0))), (1, .ref (A (30, f)))]) (pc := 33) C dX11_isFileSound_33 (by decide) rfl ?_
              refine v_aloadN (pc := 35) C dX11_isFileSound_35 0 rfl ?_
              refine v_ifnullN (tgt := 71) (pc := 37) C dX11_isFileSound_37 (by decide) ?_
              refine v_iinc (v := nI (i_22 + 1)) (lv2 := [(3, .int (nI (i_22 + 1))), (4, .null), (2, .int (x_22_2)), (0, .ref (A (0, 0))), (1, .ref (A (30, f)))]) (pc := 71) C dX11_isFileSound_71 1 rfl (nI_1 _) (by decide) rfl ?_
              refine v_goto (tgt := 22) (pc := 74) C dX11_isFileSound_74 (by decide) ?_
              refine v_lv (lv2 := [(3, .int (nI (i_22 + 1))), (2, .int (x_22_2)), (0, .ref (A (0, 0))), (1, .ref (A (30, f)))]) [0, 2, 3, 4] rfl ?_
              exact ih (i_22 + 1) (x_22_2) (by (try simp only [Int32.le_iff_toInt_le, Int32.lt_iff_toInt_lt, ← Int32.toInt_inj, vp_in_iff, Int32.reduceToInt] at c_1 c_10 c_11 c_12 hq_22 hr_22 ⊢) <;> omega) (by omega)  (by rw [eV_22, VL_X11_isFileSound_22, if_neg c_11, if_pos c_12])
            · skip
              rcases Classical.em (8 ≤ nI i_22) with c_13 | c_13
              · skip
                refine v_st (k2 := 0) (n2 := 0) (st2 := [.null]) rfl rfl (by show vRq A (Q_X4_partAt g (f) (nI i_22)) :: _ = _; rw [Q_X4_partAt]; rw [if_neg c_12, if_pos c_13]; rfl) ?_
                refine v_astoreN (lv2 := [(4, .null), (3, .int (nI i_22)), (2, .int (x_22_2)), (0, .ref (A (0, 0))), (1, .ref (A (30, f)))]) (pc := 33) C dX11_isFileSound_33 (by decide) rfl ?_
                refine v_aloadN (pc := 35) C dX11_isFileSound_35 0 rfl ?_
                refine v_ifnullN (tgt := 71) (pc := 37) C dX11_isFileSound_37 (by decide) ?_
                refine v_iinc (v := nI (i_22 + 1)) (lv2 := [(3, .int (nI (i_22 + 1))), (4, .null), (2, .int (x_22_2)), (0, .ref (A (0, 0))), (1, .ref (A (30, f)))]) (pc := 71) C dX11_isFileSound_71 1 rfl (nI_1 _) (by decide) rfl ?_
                refine v_goto (tgt := 22) (pc := 74) C dX11_isFileSound_74 (by decide) ?_
                refine v_lv (lv2 := [(3, .int (nI (i_22 + 1))), (2, .int (x_22_2)), (0, .ref (A (0, 0))), (1, .ref (A (30, f)))]) [0, 2, 3, 4] rfl ?_
                exact ih (i_22 + 1) (x_22_2) (by (try simp only [Int32.le_iff_toInt_le, Int32.lt_iff_toInt_lt, ← Int32.toInt_inj, vp_in_iff, Int32.reduceToInt] at c_1 c_10 c_11 c_12 c_13 hq_22 hr_22 ⊢) <;> omega) (by omega)  (by rw [eV_22, VL_X11_isFileSound_22, if_neg c_11, if_neg c_12, if_pos c_13])
              · skip
                rcases Classical.em ((g 106 f i_22) = 0) with c_14 | c_14
                · skip
                  refine v_st (k2 := 0) (n2 := 0) (st2 := [.null]) rfl rfl (by show vRq A (Q_X4_partAt g (f) (nI i_22)) :: _ = _; rw [Q_X4_partAt]; simp only [show (nI i_22 : Int32).toNatClampNeg = i_22 from (nI_clamp (by omega))]; rw [if_neg c_12, if_neg c_13, if_pos c_14]; rfl) ?_
                  refine v_astoreN (lv2 := [(4, .null), (3, .int (nI i_22)), (2, .int (x_22_2)), (0, .ref (A (0, 0))), (1, .ref (A (30, f)))]) (pc := 33) C dX11_isFileSound_33 (by decide) rfl ?_
                  refine v_aloadN (pc := 35) C dX11_isFileSound_35 0 rfl ?_
                  refine v_ifnullN (tgt := 71) (pc := 37) C dX11_isFileSound_37 (by decide) ?_
                  refine v_iinc (v := nI (i_22 + 1)) (lv2 := [(3, .int (nI (i_22 + 1))), (4, .null), (2, .int (x_22_2)), (0, .ref (A (0, 0))), (1, .ref (A (30, f)))]) (pc := 71) C dX11_isFileSound_71 1 rfl (nI_1 _) (by decide) rfl ?_
                  refine v_goto (tgt := 22) (pc := 74) C dX11_isFileSound_74 (by decide) ?_
                  refine v_lv (lv2 := [(3, .int (nI (i_22 + 1))), (2, .int (x_22_2)), (0, .ref (A (0, 0))), (1, .ref (A (30, f)))]) [0, 2, 3, 4] rfl ?_
                  exact ih (i_22 + 1) (x_22_2) (by (try simp only [Int32.le_iff_toInt_le, Int32.lt_iff_toInt_lt, ← Int32.toInt_inj, vp_in_iff, Int32.reduceToInt] at c_1 c_10 c_11 c_12 c_13 c_14 hq_22 hr_22 ⊢) <;> omega) (by omega)  (by rw [eV_22, VL_X11_isFileSound_22, if_neg c_11, if_neg c_12, if_neg c_13, if_pos c_14])
                · skip
                  refine v_st (k2 := 0) (n2 := 0) (st2 := [.ref (A (32, 8 * f + i_22))]) rfl rfl (by show vRq A (Q_X4_partAt g (f) (nI i_22)) :: _ = _; rw [Q_X4_partAt]; simp only [show (nI i_22 : Int32).toNatClampNeg = i_22 from (nI_clamp (by omega))]; rw [if_neg c_12, if_neg c_13, if_neg c_14]; rfl) ?_
                  refine v_astore (lv2 := [(4, .ref (A (32, 8 * f + i_22))), (3, .int (nI i_22)), (2, .int (x_22_2)), (0, .ref (A (0, 0))), (1, .ref (A (30, f)))]) (pc := 33) C dX11_isFileSound_33 (by decide) rfl ?_
                  refine v_aload (pc := 35) C dX11_isFileSound_35 0 rfl ?_
                  refine v_ifnull (pc := 37) C dX11_isFileSound_37 ?_
                  refine v_iload_n (pc := 40) C dX11_isFileSound_40 2 rfl rfl ?_
                  refine v_if_eq (pc := 41) (tgt := 59) C dX11_isFileSound_41 (by decide) (fun c_15 => ?_) (fun c_15 => ?_)
                  · skip
                    refine v_aload_n (pc := 59) C dX11_isFileSound_59 3 rfl rfl ?_
                    refine v_aload_n (pc := 60) C dX11_isFileSound_60 4 rfl rfl ?_
                    refine v_aload (pc := 61) C dX11_isFileSound_61 0 rfl ?_
                    refine v_callV (pc := 63) C (0, 0) ck_0 rfl (c_X11_doBothWaysAgree hG (f) (i_22) hf (by simp only [Int32.le_iff_toInt_le, Int32.lt_iff_toInt_lt, ← Int32.toInt_inj, Int32.reduceToInt] at c_1 c_10 c_11 c_12 c_13 c_14 hq_22 hr_22; omega) c_14 hU hI) 2 wd_333 wd_62 wd_330 wd_332 wd_2 (by decide +kernel) (by decide) (by decide) rfl ([]) rfl (Nat.le_of_ble_eq_true rfl) (by decide) dX11_isFileSound_63 (fun _ _ _ q => q.elim) (fun v9 A9 h9 hR9 => ?_)
                    obtain ⟨rfl, hA9, rfl⟩ := hR9
                    obtain rfl := hA9.symm
                    refine v_st (k2 := 0) (n2 := 0) (st2 := [.int ((V_X11_doBothWaysAgree g (f) (i_22)))]) rfl rfl rfl ?_
                    refine v_if_ne (pc := 66) (tgt := 71) C dX11_isFileSound_66 (by decide) (fun c_16 => ?_) (fun c_16 => ?_)
                    · skip
                      refine v_iinc (v := nI (i_22 + 1)) (lv2 := [(3, .int (nI (i_22 + 1))), (4, .ref (A (32, 8 * f + i_22))), (2, .int (x_22_2)), (0, .ref (A (0, 0))), (1, .ref (A (30, f)))]) (pc := 71) C dX11_isFileSound_71 1 rfl (nI_1 _) (by decide) rfl ?_
                      refine v_goto (tgt := 22) (pc := 74) C dX11_isFileSound_74 (by decide) ?_
                      refine v_lv (lv2 := [(3, .int (nI (i_22 + 1))), (2, .int (x_22_2)), (0, .ref (A (0, 0))), (1, .ref (A (30, f)))]) [0, 2, 3, 4] rfl ?_
                      exact ih (i_22 + 1) (x_22_2) (by (try simp only [Int32.le_iff_toInt_le, Int32.lt_iff_toInt_lt, ← Int32.toInt_inj, vp_in_iff, Int32.reduceToInt] at c_1 c_10 c_11 c_12 c_13 c_14 c_15 c_16 hq_22 hr_22 ⊢) <;> omega) (by omega)  (by rw [eV_22, VL_X11_isFileSound_22, if_neg c_11, if_neg c_12, if_neg c_13, if_neg c_14, if_pos c_15, if_neg c_16])
                    · skip
                      refine v_iconst (v := 0) (pc := 69) C dX11_isFileSound_69 rfl ?_
                      exact v_zret (pc := 70) C rfl (by decide) (by decide) dX11_isFileSound_70 ⟨(congrArg (fun q => some (Value.int q)) (by show _ = _; rw [eV_22, VL_X11_isFileSound_22, if_neg c_11, if_neg c_12, if_neg c_13, if_neg c_14, if_pos c_15, if_pos c_16])), rfl, rfl⟩
                  · skip
                    refine v_aload (pc := 44) C dX11_isFileSound_44 0 rfl ?_
                    refine v_callV (pc := 46) C (32, 8 * f + i_22) (ck_32 (g := g) (by simp only [Int32.le_iff_toInt_le, Int32.lt_iff_toInt_lt, ← Int32.toInt_inj, Int32.reduceToInt] at c_1 c_10 c_11 c_12 c_13 c_14 hq_22 hr_22; omega) c_14) rfl (c_X6_opened hG (f) (i_22) (by simp only [Int32.le_iff_toInt_le, Int32.lt_iff_toInt_lt, ← Int32.toInt_inj, Int32.reduceToInt] at c_1 c_10 c_11 c_12 c_13 c_14 hq_22 hr_22; omega) c_14) 0 wd_325 wd_81 wd_322 wd_323 wd_324 (by decide +kernel) (by decide) (by decide) rfl ([]) rfl (Nat.le_of_ble_eq_true rfl) (by decide) dX11_isFileSound_46 (fun _ _ _ q => q.elim) (fun v9 A9 h9 hR9 => ?_)
                    obtain ⟨rfl, hA9, rfl⟩ := hR9
                    obtain rfl := hA9.symm
                    refine v_st (k2 := 0) (n2 := 0) (st2 := [.int ((V_X6_opened g (f) (i_22)))]) rfl rfl rfl ?_
                    refine v_aload (pc := 49) C dX11_isFileSound_49 0 rfl ?_
                    refine v_get (pc := 51) C (32, 8 * f + i_22) (v := .int ((g 59 f i_22))) (ck_32 (g := g) (by simp only [Int32.le_iff_toInt_le, Int32.lt_iff_toInt_lt, ← Int32.toInt_inj, Int32.reduceToInt] at c_1 c_10 c_11 c_12 c_13 c_14 hq_22 hr_22; omega) c_14) rfl 1 (by decide) inX6 wd_781 rfl rfl dX11_isFileSound_51 ?_
                    refine v_icmp_eq (pc := 54) (tgt := 59) C dX11_isFileSound_54 (by decide) (fun c_17 => ?_) (fun c_17 => ?_)
                    · skip
                      refine v_aload_n (pc := 59) C dX11_isFileSound_59 3 rfl rfl ?_
                      refine v_aload_n (pc := 60) C dX11_isFileSound_60 4 rfl rfl ?_
                      refine v_aload (pc := 61) C dX11_isFileSound_61 0 rfl ?_
                      refine v_callV (pc := 63) C (0, 0) ck_0 rfl (c_X11_doBothWaysAgree hG (f) (i_22) hf (by simp only [Int32.le_iff_toInt_le, Int32.lt_iff_toInt_lt, ← Int32.toInt_inj, Int32.reduceToInt] at c_1 c_10 c_11 c_12 c_13 c_14 hq_22 hr_22; omega) c_14 hU hI) 2 wd_333 wd_62 wd_330 wd_332 wd_2 (by decide +kernel) (by decide) (by decide) rfl ([]) rfl (Nat.le_of_ble_eq_true rfl) (by decide) dX11_isFileSound_63 (fun _ _ _ q => q.elim) (fun v9 A9 h9 hR9 => ?_)
                      obtain ⟨rfl, hA9, rfl⟩ := hR9
                      obtain rfl := hA9.symm
                      refine v_st (k2 := 0) (n2 := 0) (st2 := [.int ((V_X11_doBothWaysAgree g (f) (i_22)))]) rfl rfl rfl ?_
                      refine v_if_ne (pc := 66) (tgt := 71) C dX11_isFileSound_66 (by decide) (fun c_18 => ?_) (fun c_18 => ?_)
                      · skip
                        refine v_iinc (v := nI (i_22 + 1)) (lv2 := [(3, .int (nI (i_22 + 1))), (4, .ref (A (32, 8 * f + i_22))), (2, .int (x_22_2)), (0, .ref (A (0, 0))), (1, .ref (A (30, f)))]) (pc := 71) C dX11_isFileSound_71 1 rfl (nI_1 _) (by decide) rfl ?_
                        refine v_goto (tgt := 22) (pc := 74) C dX11_isFileSound_74 (by decide) ?_
                        refine v_lv (lv2 := [(3, .int (nI (i_22 + 1))), (2, .int (x_22_2)), (0, .ref (A (0, 0))), (1, .ref (A (30, f)))]) [0, 2, 3, 4] rfl ?_
                        exact ih (i_22 + 1) (x_22_2) (by (try simp only [Int32.le_iff_toInt_le, Int32.lt_iff_toInt_lt, ← Int32.toInt_inj, vp_in_iff, Int32.reduceToInt] at c_1 c_10 c_11 c_12 c_13 c_14 c_15 c_17 c_18 hq_22 hr_22 ⊢) <;> omega) (by omega)  (by rw [eV_22, VL_X11_isFileSound_22, if_neg c_11, if_neg c_12, if_neg c_13, if_neg c_14, if_neg c_15, if_pos c_17, if_neg c_18])
                      · skip
                        refine v_iconst (v := 0) (pc := 69) C dX11_isFileSound_69 rfl ?_
                        exact v_zret (pc := 70) C rfl (by decide) (by decide) dX11_isFileSound_70 ⟨(congrArg (fun q => some (Value.int q)) (by show _ = _; rw [eV_22, VL_X11_isFileSound_22, if_neg c_11, if_neg c_12, if_neg c_13, if_neg c_14, if_neg c_15, if_pos c_17, if_pos c_18])), rfl, rfl⟩
                    · skip
                      refine v_iconst (v := 0) (pc := 57) C dX11_isFileSound_57 rfl ?_
                      exact v_zret (pc := 58) C rfl (by decide) (by decide) dX11_isFileSound_58 ⟨(congrArg (fun q => some (Value.int q)) (by show _ = _; rw [eV_22, VL_X11_isFileSound_22, if_neg c_11, if_neg c_12, if_neg c_13, if_neg c_14, if_neg c_15, if_neg c_17])), rfl, rfl⟩
      exact L_22 (8 + 1) 0 (0) (by omega) (by omega)  (by rw [V_X11_isFileSound, if_pos c_1, if_neg c_10])
    · skip
      refine v_iconst (v := 1) (pc := 14) C dX11_isFileSound_14 rfl ?_
      refine v_goto (tgt := 19) (pc := 15) C dX11_isFileSound_15 (by decide) ?_
      refine v_istore_n (lv2 := [(2, .int (1)), (0, .ref (A (0, 0))), (1, .ref (A (30, f)))]) (pc := 19) C dX11_isFileSound_19 rfl (by decide) rfl ?_
      refine v_iconst (v := 0) (pc := 20) C dX11_isFileSound_20 rfl ?_
      refine v_istore_n (lv2 := [(3, .int (0)), (2, .int (1)), (0, .ref (A (0, 0))), (1, .ref (A (30, f)))]) (pc := 21) C dX11_isFileSound_21 rfl (by decide) rfl ?_
      have L_22 : ∀ (n : Nat) (i_22 : Nat) (x_22_2 : Int32), i_22 ≤ 8 → 8 + 1 ≤ i_22 + n → (V_X11_isFileSound g f) = VL_X11_isFileSound_22 g f n i_22 x_22_2 → V G 5 X A (w g r) 0 0 (vM G X (fun v A2 h2 => v = some (.int (V_X11_isFileSound g f)) ∧ A2 = A ∧ h2 = w g r) (vNoX) 0 0) 22 [(3, .int (nI i_22)), (2, .int (x_22_2)), (0, .ref (A (0, 0))), (1, .ref (A (30, f)))] [] := by
        intro n
        induction n with
        | zero => intro i_22 x_22_2 hi_22 hc_22 eV_22; exact absurd hc_22 (by omega)
        | succ n ih =>
          intro i_22 x_22_2 hi_22 hc_22 eV_22
          have hq_22 : (nI i_22).toInt = (i_22 : Int) := nI_toInt (by omega)
          have hr_22 : (nI (i_22 + 1)).toInt = ((i_22 + 1 : Nat) : Int) := nI_toInt (by omega)
          refine v_iload_n (pc := 22) C dX11_isFileSound_22 0 rfl rfl ?_
          refine v_bipush (v := 8) (pc := 23) C dX11_isFileSound_23 (by decide) ?_
          refine v_icmp_ge (pc := 25) (tgt := 77) C dX11_isFileSound_25 (by decide) (fun c_19 => ?_) (fun c_19 => ?_)
          · skip
            refine v_iconst (v := 1) (pc := 77) C dX11_isFileSound_77 rfl ?_
            exact v_zret (pc := 78) C rfl (by decide) (by decide) dX11_isFileSound_78 ⟨(congrArg (fun q => some (Value.int q)) (by show _ = _; rw [eV_22, VL_X11_isFileSound_22, if_pos c_19])), rfl, rfl⟩
          · skip
            refine v_aload_n (pc := 28) C dX11_isFileSound_28 3 rfl rfl ?_
            refine v_iload_n (pc := 29) C dX11_isFileSound_29 0 rfl rfl ?_
            refine v_callV (pc := 30) C (30, f) (ck_30 (g := g) hf) rfl (c_X4_partAt hG (f) (nI i_22) hf) 1 wd_321 wd_80 wd_318 wd_319 wd_320 (by decide +kernel) (by decide) (by decide) rfl ([]) rfl (Nat.le_of_ble_eq_true rfl) (by decide) dX11_isFileSound_30 (fun _ _ _ q => q.elim) (fun v9 A9 h9 hR9 => ?_)
            obtain ⟨rfl, hA9, rfl⟩ := hR9
            obtain rfl := hA9.symm
            rcases Classical.em (nI i_22 < 0) with c_20 | c_20
            · skip
              refine v_st (k2 := 0) (n2 := 0) (st2 := [.null]) rfl rfl (by show vRq A (Q_X4_partAt g (f) (nI i_22)) :: _ = _; rw [Q_X4_partAt]; rw [if_pos c_20]; rfl) ?_
              refine v_astoreN (lv2 := [(4, .null), (3, .int (nI i_22)), (2, .int (x_22_2)), (0, .ref (A (0, 0))), (1, .ref (A (30, f)))]) (pc := 33) C dX11_isFileSound_33 (by decide) rfl ?_
              refine v_aloadN (pc := 35) C dX11_isFileSound_35 0 rfl ?_
              refine v_ifnullN (tgt := 71) (pc := 37) C dX11_isFileSound_37 (by decide) ?_
              refine v_iinc (v := nI (i_22 + 1)) (lv2 := [(3, .int (nI (i_22 + 1))), (4, .null), (2, .int (x_22_2)), (0, .ref (A (0, 0))), (1, .ref (A (30, f)))]) (pc := 71) C dX11_isFileSound_71 1 rfl (nI_1 _) (by decide) rfl ?_
              refine v_goto (tgt := 22) (pc := 74) C dX11_isFileSound_74 (by decide) ?_
              refine v_lv (lv2 := [(3, .int (nI (i_22 + 1))), (2, .int (x_22_2)), (0, .ref (A (0, 0))), (1, .ref (A (30, f)))]) [0, 2, 3, 4] rfl ?_
              exact ih (i_22 + 1) (x_22_2) (by (try simp only [Int32.le_iff_toInt_le, Int32.lt_iff_toInt_lt, ← Int32.toInt_inj, vp_in_iff, Int32.reduceToInt] at c_1 c_10 c_19 c_20 hq_22 hr_22 ⊢) <;> omega) (by omega)  (by rw [eV_22, VL_X11_isFileSound_22, if_neg c_19, if_pos c_20])
            · skip
              rcases Classical.em (8 ≤ nI i_22) with c_21 | c_21
              · skip
                refine v_st (k2 := 0) (n2 := 0) (st2 := [.null]) rfl rfl (by show vRq A (Q_X4_partAt g (f) (nI i_22)) :: _ = _; rw [Q_X4_partAt]; rw [if_neg c_20, if_pos c_21]; rfl) ?_
                refine v_astoreN (lv2 := [(4, .null), (3, .int (nI i_22)), (2, .int (x_22_2)), (0, .ref (A (0, 0))), (1, .ref (A (30, f)))]) (pc := 33) C dX11_isFileSound_33 (by decide) rfl ?_
                refine v_aloadN (pc := 35) C dX11_isFileSound_35 0 rfl ?_
                refine v_ifnullN (tgt := 71) (pc := 37) C dX11_isFileSound_37 (by decide) ?_
                refine v_iinc (v := nI (i_22 + 1)) (lv2 := [(3, .int (nI (i_22 + 1))), (4, .null), (2, .int (x_22_2)), (0, .ref (A (0, 0))), (1, .ref (A (30, f)))]) (pc := 71) C dX11_isFileSound_71 1 rfl (nI_1 _) (by decide) rfl ?_
                refine v_goto (tgt := 22) (pc := 74) C dX11_isFileSound_74 (by decide) ?_
                refine v_lv (lv2 := [(3, .int (nI (i_22 + 1))), (2, .int (x_22_2)), (0, .ref (A (0, 0))), (1, .ref (A (30, f)))]) [0, 2, 3, 4] rfl ?_
                exact ih (i_22 + 1) (x_22_2) (by (try simp only [Int32.le_iff_toInt_le, Int32.lt_iff_toInt_lt, ← Int32.toInt_inj, vp_in_iff, Int32.reduceToInt] at c_1 c_10 c_19 c_20 c_21 hq_22 hr_22 ⊢) <;> omega) (by omega)  (by rw [eV_22, VL_X11_isFileSound_22, if_neg c_19, if_neg c_20, if_pos c_21])
              · skip
                rcases Classical.em ((g 106 f i_22) = 0) with c_22 | c_22
                · skip
                  refine v_st (k2 := 0) (n2 := 0) (st2 := [.null]) rfl rfl (by show vRq A (Q_X4_partAt g (f) (nI i_22)) :: _ = _; rw [Q_X4_partAt]; simp only [show (nI i_22 : Int32).toNatClampNeg = i_22 from (nI_clamp (by omega))]; rw [if_neg c_20, if_neg c_21, if_pos c_22]; rfl) ?_
                  refine v_astoreN (lv2 := [(4, .null), (3, .int (nI i_22)), (2, .int (x_22_2)), (0, .ref (A (0, 0))), (1, .ref (A (30, f)))]) (pc := 33) C dX11_isFileSound_33 (by decide) rfl ?_
                  refine v_aloadN (pc := 35) C dX11_isFileSound_35 0 rfl ?_
                  refine v_ifnullN (tgt := 71) (pc := 37) C dX11_isFileSound_37 (by decide) ?_
                  refine v_iinc (v := nI (i_22 + 1)) (lv2 := [(3, .int (nI (i_22 + 1))), (4, .null), (2, .int (x_22_2)), (0, .ref (A (0, 0))), (1, .ref (A (30, f)))]) (pc := 71) C dX11_isFileSound_71 1 rfl (nI_1 _) (by decide) rfl ?_
                  refine v_goto (tgt := 22) (pc := 74) C dX11_isFileSound_74 (by decide) ?_
                  refine v_lv (lv2 := [(3, .int (nI (i_22 + 1))), (2, .int (x_22_2)), (0, .ref (A (0, 0))), (1, .ref (A (30, f)))]) [0, 2, 3, 4] rfl ?_
                  exact ih (i_22 + 1) (x_22_2) (by (try simp only [Int32.le_iff_toInt_le, Int32.lt_iff_toInt_lt, ← Int32.toInt_inj, vp_in_iff, Int32.reduceToInt] at c_1 c_10 c_19 c_20 c_21 c_22 hq_22 hr_22 ⊢) <;> omega) (by omega)  (by rw [eV_22, VL_X11_isFileSound_22, if_neg c_19, if_neg c_20, if_neg c_21, if_pos c_22])
                · skip
                  refine v_st (k2 := 0) (n2 := 0) (st2 := [.ref (A (32, 8 * f + i_22))]) rfl rfl (by show vRq A (Q_X4_partAt g (f) (nI i_22)) :: _ = _; rw [Q_X4_partAt]; simp only [show (nI i_22 : Int32).toNatClampNeg = i_22 from (nI_clamp (by omega))]; rw [if_neg c_20, if_neg c_21, if_neg c_22]; rfl) ?_
                  refine v_astore (lv2 := [(4, .ref (A (32, 8 * f + i_22))), (3, .int (nI i_22)), (2, .int (x_22_2)), (0, .ref (A (0, 0))), (1, .ref (A (30, f)))]) (pc := 33) C dX11_isFileSound_33 (by decide) rfl ?_
                  refine v_aload (pc := 35) C dX11_isFileSound_35 0 rfl ?_
                  refine v_ifnull (pc := 37) C dX11_isFileSound_37 ?_
                  refine v_iload_n (pc := 40) C dX11_isFileSound_40 2 rfl rfl ?_
                  refine v_if_eq (pc := 41) (tgt := 59) C dX11_isFileSound_41 (by decide) (fun c_23 => ?_) (fun c_23 => ?_)
                  · skip
                    refine v_aload_n (pc := 59) C dX11_isFileSound_59 3 rfl rfl ?_
                    refine v_aload_n (pc := 60) C dX11_isFileSound_60 4 rfl rfl ?_
                    refine v_aload (pc := 61) C dX11_isFileSound_61 0 rfl ?_
                    refine v_callV (pc := 63) C (0, 0) ck_0 rfl (c_X11_doBothWaysAgree hG (f) (i_22) hf (by simp only [Int32.le_iff_toInt_le, Int32.lt_iff_toInt_lt, ← Int32.toInt_inj, Int32.reduceToInt] at c_1 c_10 c_19 c_20 c_21 c_22 hq_22 hr_22; omega) c_22 hU hI) 2 wd_333 wd_62 wd_330 wd_332 wd_2 (by decide +kernel) (by decide) (by decide) rfl ([]) rfl (Nat.le_of_ble_eq_true rfl) (by decide) dX11_isFileSound_63 (fun _ _ _ q => q.elim) (fun v9 A9 h9 hR9 => ?_)
                    obtain ⟨rfl, hA9, rfl⟩ := hR9
                    obtain rfl := hA9.symm
                    refine v_st (k2 := 0) (n2 := 0) (st2 := [.int ((V_X11_doBothWaysAgree g (f) (i_22)))]) rfl rfl rfl ?_
                    refine v_if_ne (pc := 66) (tgt := 71) C dX11_isFileSound_66 (by decide) (fun c_24 => ?_) (fun c_24 => ?_)
                    · skip
                      refine v_iinc (v := nI (i_22 + 1)) (lv2 := [(3, .int (nI (i_22 + 1))), (4, .ref (A (32, 8 * f + i_22))), (2, .int (x_22_2)), (0, .ref (A (0, 0))), (1, .ref (A (30, f)))]) (pc := 71) C dX11_isFileSound_71 1 rfl (nI_1 _) (by decide) rfl ?_
                      refine v_goto (tgt := 22) (pc := 74) C dX11_isFileSound_74 (by decide) ?_
                      refine v_lv (lv2 := [(3, .int (nI (i_22 + 1))), (2, .int (x_22_2)), (0, .ref (A (0, 0))), (1, .ref (A (30, f)))]) [0, 2, 3, 4] rfl ?_
                      exact ih (i_22 + 1) (x_22_2) (by (try simp only [Int32.le_iff_toInt_le, Int32.lt_iff_toInt_lt, ← Int32.toInt_inj, vp_in_iff, Int32.reduceToInt] at c_1 c_10 c_19 c_20 c_21 c_22 c_23 c_24 hq_22 hr_22 ⊢) <;> omega) (by omega)  (by rw [eV_22, VL_X11_isFileSound_22, if_neg c_19, if_neg c_20, if_neg c_21, if_neg c_22, if_pos c_23, if_neg c_24])
                    · skip
                      refine v_iconst (v := 0) (pc := 69) C dX11_isFileSound_69 rfl ?_
                      exact v_zret (pc := 70) C rfl (by decide) (by decide) dX11_isFileSound_70 ⟨(congrArg (fun q => some (Value.int q)) (by show _ = _; rw [eV_22, VL_X11_isFileSound_22, if_neg c_19, if_neg c_20, if_neg c_21, if_neg c_22, if_pos c_23, if_pos c_24])), rfl, rfl⟩
                  · skip
                    refine v_aload (pc := 44) C dX11_isFileSound_44 0 rfl ?_
                    refine v_callV (pc := 46) C (32, 8 * f + i_22) (ck_32 (g := g) (by simp only [Int32.le_iff_toInt_le, Int32.lt_iff_toInt_lt, ← Int32.toInt_inj, Int32.reduceToInt] at c_1 c_10 c_19 c_20 c_21 c_22 hq_22 hr_22; omega) c_22) rfl (c_X6_opened hG (f) (i_22) (by simp only [Int32.le_iff_toInt_le, Int32.lt_iff_toInt_lt, ← Int32.toInt_inj, Int32.reduceToInt] at c_1 c_10 c_19 c_20 c_21 c_22 hq_22 hr_22; omega) c_22) 0 wd_325 wd_81 wd_322 wd_323 wd_324 (by decide +kernel) (by decide) (by decide) rfl ([]) rfl (Nat.le_of_ble_eq_true rfl) (by decide) dX11_isFileSound_46 (fun _ _ _ q => q.elim) (fun v9 A9 h9 hR9 => ?_)
                    obtain ⟨rfl, hA9, rfl⟩ := hR9
                    obtain rfl := hA9.symm
                    refine v_st (k2 := 0) (n2 := 0) (st2 := [.int ((V_X6_opened g (f) (i_22)))]) rfl rfl rfl ?_
                    refine v_aload (pc := 49) C dX11_isFileSound_49 0 rfl ?_
                    refine v_get (pc := 51) C (32, 8 * f + i_22) (v := .int ((g 59 f i_22))) (ck_32 (g := g) (by simp only [Int32.le_iff_toInt_le, Int32.lt_iff_toInt_lt, ← Int32.toInt_inj, Int32.reduceToInt] at c_1 c_10 c_19 c_20 c_21 c_22 hq_22 hr_22; omega) c_22) rfl 1 (by decide) inX6 wd_781 rfl rfl dX11_isFileSound_51 ?_
                    refine v_icmp_eq (pc := 54) (tgt := 59) C dX11_isFileSound_54 (by decide) (fun c_25 => ?_) (fun c_25 => ?_)
                    · skip
                      refine v_aload_n (pc := 59) C dX11_isFileSound_59 3 rfl rfl ?_
                      refine v_aload_n (pc := 60) C dX11_isFileSound_60 4 rfl rfl ?_
                      refine v_aload (pc := 61) C dX11_isFileSound_61 0 rfl ?_
                      refine v_callV (pc := 63) C (0, 0) ck_0 rfl (c_X11_doBothWaysAgree hG (f) (i_22) hf (by simp only [Int32.le_iff_toInt_le, Int32.lt_iff_toInt_lt, ← Int32.toInt_inj, Int32.reduceToInt] at c_1 c_10 c_19 c_20 c_21 c_22 hq_22 hr_22; omega) c_22 hU hI) 2 wd_333 wd_62 wd_330 wd_332 wd_2 (by decide +kernel) (by decide) (by decide) rfl ([]) rfl (Nat.le_of_ble_eq_true rfl) (by decide) dX11_isFileSound_63 (fun _ _ _ q => q.elim) (fun v9 A9 h9 hR9 => ?_)
                      obtain ⟨rfl, hA9, rfl⟩ := hR9
                      obtain rfl := hA9.symm
                      refine v_st (k2 := 0) (n2 := 0) (st2 := [.int ((V_X11_doBothWaysAgree g (f) (i_22)))]) rfl rfl rfl ?_
                      refine v_if_ne (pc := 66) (tgt := 71) C dX11_isFileSound_66 (by decide) (fun c_26 => ?_) (fun c_26 => ?_)
                      · skip
                        refine v_iinc (v := nI (i_22 + 1)) (lv2 := [(3, .int (nI (i_22 + 1))), (4, .ref (A (32, 8 * f + i_22))), (2, .int (x_22_2)), (0, .ref (A (0, 0))), (1, .ref (A (30, f)))]) (pc := 71) C dX11_isFileSound_71 1 rfl (nI_1 _) (by decide) rfl ?_
                        refine v_goto (tgt := 22) (pc := 74) C dX11_isFileSound_74 (by decide) ?_
                        refine v_lv (lv2 := [(3, .int (nI (i_22 + 1))), (2, .int (x_22_2)), (0, .ref (A (0, 0))), (1, .ref (A (30, f)))]) [0, 2, 3, 4] rfl ?_
                        exact ih (i_22 + 1) (x_22_2) (by (try simp only [Int32.le_iff_toInt_le, Int32.lt_iff_toInt_lt, ← Int32.toInt_inj, vp_in_iff, Int32.reduceToInt] at c_1 c_10 c_19 c_20 c_21 c_22 c_23 c_25 c_26 hq_22 hr_22 ⊢) <;> omega) (by omega)  (by rw [eV_22, VL_X11_isFileSound_22, if_neg c_19, if_neg c_20, if_neg c_21, if_neg c_22, if_neg c_23, if_pos c_25, if_neg c_26])
                      · skip
                        refine v_iconst (v := 0) (pc := 69) C dX11_isFileSound_69 rfl ?_
                        exact v_zret (pc := 70) C rfl (by decide) (by decide) dX11_isFileSound_70 ⟨(congrArg (fun q => some (Value.int q)) (by show _ = _; rw [eV_22, VL_X11_isFileSound_22, if_neg c_19, if_neg c_20, if_neg c_21, if_neg c_22, if_neg c_23, if_pos c_25, if_pos c_26])), rfl, rfl⟩
                    · skip
                      refine v_iconst (v := 0) (pc := 57) C dX11_isFileSound_57 rfl ?_
                      exact v_zret (pc := 58) C rfl (by decide) (by decide) dX11_isFileSound_58 ⟨(congrArg (fun q => some (Value.int q)) (by show _ = _; rw [eV_22, VL_X11_isFileSound_22, if_neg c_19, if_neg c_20, if_neg c_21, if_neg c_22, if_neg c_23, if_neg c_25])), rfl, rfl⟩
      exact L_22 (8 + 1) 0 (1) (by omega) (by omega)  (by rw [V_X11_isFileSound, if_pos c_1, if_pos c_10])
def VL_X11_isSound_9 (g : vS)  : Nat → Nat → vS → Int32
  | 0, _, _ => 0
  | n + 1, i_9, q_9 => (if (g 2 0 0) ≤ nI i_9 then 1 else (if 20 ≤ nI i_9 then 1 else (if (g 105 i_9 0) = 0 then (VL_X11_isSound_9 g n (i_9 + 1) q_9) else (if (V_X11_isFileSound q_9 (i_9)) = 0 then 0 else (VL_X11_isSound_9 g n (i_9 + 1) q_9)))))
def SL_X11_isSound_9 (g : vS)  : Nat → Nat → vS → vS
  | 0, _, q9 => q9
  | n + 1, i_9, q_9 => (if (g 2 0 0) ≤ nI i_9 then q_9 else (if 20 ≤ nI i_9 then q_9 else (if (g 105 i_9 0) = 0 then (SL_X11_isSound_9 g n (i_9 + 1) q_9) else (if (V_X11_isFileSound q_9 (i_9)) = 0 then q_9 else (SL_X11_isSound_9 g n (i_9 + 1) q_9)))))
def V_X11_isSound (g : vS)  : Int32 := (VL_X11_isSound_9 g (20 + 1) 0 (S_X2_replay g))
theorem BL_X11_isSound_9 {g : vS}  : ∀ (n : Nat) (a0 : Nat) (a1 : vS), VL_X11_isSound_9 g n a0 a1 = 0 ∨ VL_X11_isSound_9 g n a0 a1 = 1 := by
  intro n
  induction n with
  | zero => intro a0 a1; exact Or.inl rfl
  | succ n ih =>
    intro a0 a1
    simp only [VL_X11_isSound_9]
    (repeat' split) <;> first | exact Or.inl rfl | exact Or.inr rfl | exact ih ..
theorem B_X11_isSound {g : vS}  : V_X11_isSound g = 0 ∨ V_X11_isSound g = 1 := by
  unfold V_X11_isSound
  (repeat' split) <;> first | exact Or.inl rfl | exact Or.inr rfl | exact BL_X11_isSound_9 ..
def S_X11_isSound (g : vS)  : vS := (SL_X11_isSound_9 g (20 + 1) 0 (S_X2_replay g))
theorem FL_X11_isSound_9 {g : vS}  {c i j : Nat} (h87 : c ≠ 87) : ∀ (n : Nat) (a0 : Nat) (a1 : vS), a1 c i j = g c i j → SL_X11_isSound_9 g n a0 a1 c i j = g c i j := by
  intro n
  induction n with
  | zero => intro a0 a1 hq9; exact hq9
  | succ n ih =>
    intro a0 a1 hq9
    simp only [SL_X11_isSound_9]
    (repeat' split) <;> first | rfl | exact hq9 | (apply ih; first | exact hq9 | rfl | trivial | ((simp only [s3_k h87, F_X2_replay h87]) <;> first | done | exact hq9 | rfl)) | ((simp only [s3_k h87, F_X2_replay h87]) <;> first | done | exact hq9 | rfl)
theorem F_X11_isSound {g : vS}  {c i j : Nat} (h87 : c ≠ 87) : S_X11_isSound g c i j = g c i j := by
  unfold S_X11_isSound
  (repeat' split) <;> first | rfl | (apply FL_X11_isSound_9 h87; first | rfl | trivial | ((simp only [s3_k h87, F_X2_replay h87]) <;> first | done | rfl)) | ((simp only [s3_k h87, F_X2_replay h87]) <;> first | done | rfl)
set_option maxHeartbeats 4000000 in
set_option maxRecDepth 100000 in
theorem c_X11_isSound {G : vG} (hG : G.1.stackTraces = false) {A : vN → Nat} {g : vS} {r : vH}  (hU : g 0 0 0 ≤ 6) (hI : vI1 g) : vCt G yX11_isSound cX11_isSound 3 (some .boolean) 5 [.ref (A (0, 0))] A (w g r) (fun v A2 h2 => v = some (.int (V_X11_isSound g)) ∧ A2 = A ∧ h2 = w (S_X11_isSound g) r) (vNoX) 0 0 := by
  refine v_of hG (by decide +kernel) (Nat.le_of_ble_eq_true rfl) (lv := [(0, .ref (A (0, 0)))]) rfl (fun X C hnx => ?_)
  have C : vC G X cX11_isSound 3 RX11 (some .boolean) "isSound" 5 0 0 := C
  refine v_aload_n (pc := 0) C dX11_isSound_0 0 rfl rfl ?_
  refine v_get (pc := 1) C (0, 0) (v := .ref (A (7, 0))) ck_0 rfl 4 (by decide) inX11 wd_224 rfl rfl dX11_isSound_1 ?_
  refine v_callV (pc := 4) C (7, 0) ck_7 rfl (c_X2_replay hG  ) 0 wd_296 wd_64 wd_293 wd_294 wd_295 (by decide +kernel) (by decide) (by decide) rfl ([]) rfl (Nat.le_of_ble_eq_true rfl) (by decide) dX11_isSound_4 (fun _ _ _ q => q.elim) (fun v9 A9 h9 hR9 => ?_)
  obtain ⟨rfl, hA9, rfl⟩ := hR9
  obtain rfl := hA9.symm
  refine v_st (k2 := 0) (n2 := 0) (st2 := []) rfl rfl rfl ?_
  refine v_iconst (v := 0) (pc := 7) C dX11_isSound_7 rfl ?_
  refine v_istore_n (lv2 := [(1, .int (0)), (0, .ref (A (0, 0)))]) (pc := 8) C dX11_isSound_8 rfl (by decide) rfl ?_
  have L_9 : ∀ (n : Nat) (i_9 : Nat) (q_9 : vS), i_9 ≤ 20 → 20 + 1 ≤ i_9 + n → (∀ (c i j : Nat), c ≠ 87 → q_9 c i j = g c i j) → (V_X11_isSound g) = VL_X11_isSound_9 g n i_9 q_9 → (S_X11_isSound g) = SL_X11_isSound_9 g n i_9 q_9 → V G 3 X A (w q_9 r) 0 0 (vM G X (fun v A2 h2 => v = some (.int (V_X11_isSound g)) ∧ A2 = A ∧ h2 = w (S_X11_isSound g) r) (vNoX) 0 0) 9 [(1, .int (nI i_9)), (0, .ref (A (0, 0)))] [] := by
    intro n
    induction n with
    | zero => intro i_9 q_9 hi_9 hc_9 hF_9 eV_9 eS_9; exact absurd hc_9 (by omega)
    | succ n ih =>
      intro i_9 q_9 hi_9 hc_9 hF_9 eV_9 eS_9
      have hq_9 : (nI i_9).toInt = (i_9 : Int) := nI_toInt (by omega)
      have hr_9 : (nI (i_9 + 1)).toInt = ((i_9 + 1 : Nat) : Int) := nI_toInt (by omega)
      refine v_iload_n (pc := 9) C dX11_isSound_9 0 rfl rfl ?_
      refine v_aload_n (pc := 10) C dX11_isSound_10 1 rfl rfl ?_
      refine v_get (pc := 11) C (0, 0) (v := .int ((g 2 0 0))) ck_0 rfl 10 (by decide) inX11 wd_230 rfl (congrArg Value.int (hF_9 _ _ _ (by decide))) dX11_isSound_11 ?_
      refine v_icmp_ge (pc := 14) (tgt := 53) C dX11_isSound_14 (by decide) (fun c_1 => ?_) (fun c_1 => ?_)
      · skip
        refine v_iconst (v := 1) (pc := 53) C dX11_isSound_53 rfl ?_
        exact v_zret (pc := 54) C rfl (by decide) (by decide) dX11_isSound_54 ⟨(congrArg (fun q => some (Value.int q)) (by show _ = _; rw [eV_9, VL_X11_isSound_9, if_pos c_1])), rfl, (congrArg (fun q => w q r) (by show _ = _; rw [eS_9, SL_X11_isSound_9, if_pos c_1]))⟩
      · skip
        refine v_iload_n (pc := 17) C dX11_isSound_17 0 rfl rfl ?_
        refine v_aload_n (pc := 18) C dX11_isSound_18 1 rfl rfl ?_
        refine v_get (pc := 19) C (0, 0) (v := .ref (A (3, 0))) ck_0 rfl 2 (by decide) inX11 wd_222 rfl rfl dX11_isSound_19 ?_
        refine v_alen (pc := 22) C (3, 0) (v := 20) ck_3 rfl (by decide) dX11_isSound_22 ?_
        refine v_icmp_ge (pc := 23) (tgt := 53) C dX11_isSound_23 (by decide) (fun c_2 => ?_) (fun c_2 => ?_)
        · skip
          refine v_iconst (v := 1) (pc := 53) C dX11_isSound_53 rfl ?_
          exact v_zret (pc := 54) C rfl (by decide) (by decide) dX11_isSound_54 ⟨(congrArg (fun q => some (Value.int q)) (by show _ = _; rw [eV_9, VL_X11_isSound_9, if_neg c_1, if_pos c_2])), rfl, (congrArg (fun q => w q r) (by show _ = _; rw [eS_9, SL_X11_isSound_9, if_neg c_1, if_pos c_2]))⟩
        · skip
          refine v_aload_n (pc := 26) C dX11_isSound_26 1 rfl rfl ?_
          refine v_get (pc := 27) C (0, 0) (v := .ref (A (3, 0))) ck_0 rfl 2 (by decide) inX11 wd_222 rfl rfl dX11_isSound_27 ?_
          refine v_iload_n (pc := 30) C dX11_isSound_30 0 rfl rfl ?_
          rcases Classical.em ((g 105 i_9 0) = 0) with c_3 | c_3
          · skip
            refine v_aaldN (pc := 31) C (3, 0) ck_3 rfl rfl (by (try simp only [Int32.le_iff_toInt_le, Int32.lt_iff_toInt_lt, ← Int32.toInt_inj, vp_in_iff, Int32.reduceToInt] at c_1 c_2 hq_9 hr_9 ⊢) <;> omega) ((congrArg (fun k => if q_9 105 k 0 = 0 then none else some (30, k)) (show (nI i_9 : Int32).toNatClampNeg = i_9 from (nI_clamp (by omega)))).trans ((if_pos ((hF_9 _ _ _ (by decide)).trans c_3) : (fun k => if q_9 105 k 0 = 0 then none else some (30, k)) i_9 = none))) dX11_isSound_31 ?_
            refine v_astore_nN (lv2 := [(2, .null), (1, .int (nI i_9)), (0, .ref (A (0, 0)))]) (pc := 32) C dX11_isSound_32 rfl (by decide) rfl ?_
            refine v_aload_nN (pc := 33) C dX11_isSound_33 0 rfl rfl ?_
            refine v_ifnullN (tgt := 47) (pc := 34) C dX11_isSound_34 (by decide) ?_
            refine v_iinc (v := nI (i_9 + 1)) (lv2 := [(1, .int (nI (i_9 + 1))), (2, .null), (0, .ref (A (0, 0)))]) (pc := 47) C dX11_isSound_47 1 rfl (nI_1 _) (by decide) rfl ?_
            refine v_goto (tgt := 9) (pc := 50) C dX11_isSound_50 (by decide) ?_
            refine v_lv (lv2 := [(1, .int (nI (i_9 + 1))), (0, .ref (A (0, 0)))]) [0, 2] rfl ?_
            exact ih (i_9 + 1) q_9 (by (try simp only [Int32.le_iff_toInt_le, Int32.lt_iff_toInt_lt, ← Int32.toInt_inj, vp_in_iff, Int32.reduceToInt] at c_1 c_2 c_3 hq_9 hr_9 ⊢) <;> omega) (by omega) (fun c i j h87 => hF_9 c i j h87) (by rw [eV_9, VL_X11_isSound_9, if_neg c_1, if_neg c_2, if_pos c_3]) (by rw [eS_9, SL_X11_isSound_9, if_neg c_1, if_neg c_2, if_pos c_3])
          · skip
            refine v_aald (pc := 31) C (3, 0) ck_3 rfl rfl (by (try simp only [Int32.le_iff_toInt_le, Int32.lt_iff_toInt_lt, ← Int32.toInt_inj, vp_in_iff, Int32.reduceToInt] at c_1 c_2 hq_9 hr_9 ⊢) <;> omega) (30, i_9) ((congrArg (fun k => if q_9 105 k 0 = 0 then none else some (30, k)) (show (nI i_9 : Int32).toNatClampNeg = i_9 from (nI_clamp (by omega)))).trans ((if_neg (vtn (hF_9 _ _ _ (by decide)) c_3) : (fun k => if q_9 105 k 0 = 0 then none else some (30, k)) i_9 = some (30, i_9)))) dX11_isSound_31 ?_
            refine v_astore_n (lv2 := [(2, .ref (A (30, i_9))), (1, .int (nI i_9)), (0, .ref (A (0, 0)))]) (pc := 32) C dX11_isSound_32 rfl (by decide) rfl ?_
            refine v_aload_n (pc := 33) C dX11_isSound_33 0 rfl rfl ?_
            refine v_ifnull (pc := 34) C dX11_isSound_34 ?_
            refine v_aload_n (pc := 37) C dX11_isSound_37 2 rfl rfl ?_
            refine v_aload_n (pc := 38) C dX11_isSound_38 0 rfl rfl ?_
            refine v_callV (pc := 39) C (0, 0) ck_0 rfl (c_X11_isFileSound hG (i_9) (vtn (hF_9 _ _ _ (by decide)) c_3) (vle (hF_9 _ _ _ (by decide)) hU) (vI1_k (fun _ _ => hF_9 _ _ _ (by decide)) (fun _ _ => hF_9 _ _ _ (by decide)) (fun _ _ => hF_9 _ _ _ (by decide)) hI)) 1 wd_301 wd_62 wd_298 wd_300 wd_0 (by decide +kernel) (by decide) (by decide) rfl ([]) rfl (Nat.le_of_ble_eq_true rfl) (by decide) dX11_isSound_39 (fun _ _ _ q => q.elim) (fun v9 A9 h9 hR9 => ?_)
            obtain ⟨rfl, hA9, rfl⟩ := hR9
            obtain rfl := hA9.symm
            refine v_st (k2 := 0) (n2 := 0) (st2 := [.int ((V_X11_isFileSound q_9 (i_9)))]) rfl rfl rfl ?_
            refine v_if_ne (pc := 42) (tgt := 47) C dX11_isSound_42 (by decide) (fun c_4 => ?_) (fun c_4 => ?_)
            · skip
              refine v_iinc (v := nI (i_9 + 1)) (lv2 := [(1, .int (nI (i_9 + 1))), (2, .ref (A (30, i_9))), (0, .ref (A (0, 0)))]) (pc := 47) C dX11_isSound_47 1 rfl (nI_1 _) (by decide) rfl ?_
              refine v_goto (tgt := 9) (pc := 50) C dX11_isSound_50 (by decide) ?_
              refine v_lv (lv2 := [(1, .int (nI (i_9 + 1))), (0, .ref (A (0, 0)))]) [0, 2] rfl ?_
              exact ih (i_9 + 1) q_9 (by (try simp only [Int32.le_iff_toInt_le, Int32.lt_iff_toInt_lt, ← Int32.toInt_inj, vp_in_iff, Int32.reduceToInt] at c_1 c_2 c_3 c_4 hq_9 hr_9 ⊢) <;> omega) (by omega) (fun c i j h87 => hF_9 c i j h87) (by rw [eV_9, VL_X11_isSound_9, if_neg c_1, if_neg c_2, if_neg c_3, if_neg c_4]) (by rw [eS_9, SL_X11_isSound_9, if_neg c_1, if_neg c_2, if_neg c_3, if_neg c_4])
            · skip
              refine v_iconst (v := 0) (pc := 45) C dX11_isSound_45 rfl ?_
              exact v_zret (pc := 46) C rfl (by decide) (by decide) dX11_isSound_46 ⟨(congrArg (fun q => some (Value.int q)) (by show _ = _; rw [eV_9, VL_X11_isSound_9, if_neg c_1, if_neg c_2, if_neg c_3, if_pos c_4])), rfl, (congrArg (fun q => w q r) (by show _ = _; rw [eS_9, SL_X11_isSound_9, if_neg c_1, if_neg c_2, if_neg c_3, if_pos c_4]))⟩
  exact L_9 (20 + 1) 0 (S_X2_replay g) (by omega) (by omega) (fun c i j h87 => F_X2_replay h87) (by rw [V_X11_isSound]) (by rw [S_X11_isSound])
def X_X11_parts (g : vS) (a : Int32) : Nat := (if (X_X11_needGroup g (a)) = 0 then 0 else (X_X11_needGroup g (a)))
def V_X11_parts (g : vS) (a : Int32) : Int32 := (if (X_X11_needGroup g (a)) = 0 then (V_X11_partsOf g ((a).toNatClampNeg)) else 0)
set_option maxHeartbeats 4000000 in
set_option maxRecDepth 100000 in
theorem c_X11_parts {G : vG} (hG : G.1.stackTraces = false) {A : vN → Nat} {g : vS} {r : vH} (a : Int32) (hI : vI1 g) : vCt G yX11_parts cX11_parts 2 (some .int) 2 [.ref (A (0, 0)), .int (a)] A (w g r) (fun v A2 h2 => X_X11_parts g a = 0 ∧ v = some (.int (V_X11_parts g a)) ∧ A2 = A ∧ h2 = w g r) (fun cls A2 h2 => X_X11_parts g a ≠ 0 ∧ cls = vEx (X_X11_parts g a) ∧ A2 = A ∧ h2 = w g r) 1 6 := by
  refine v_of hG (by decide +kernel) (Nat.le_of_ble_eq_true rfl) (lv := [(0, .ref (A (0, 0))), (1, .int (a))]) rfl (fun X C hnx => ?_)
  have C : vC G X cX11_parts 2 RX11 (some .int) "parts" 2 1 6 := C
  refine v_aload_n (pc := 0) C dX11_parts_0 0 rfl rfl ?_
  refine v_aload_n (pc := 1) C dX11_parts_1 0 rfl rfl ?_
  refine v_iload_n (pc := 2) C dX11_parts_2 1 rfl rfl ?_
  refine v_callV (pc := 3) C (0, 0) ck_0 rfl (c_X11_needGroup hG (a) ) 1 wd_591 wd_62 wd_588 wd_590 wd_7 (by decide +kernel) (by decide) (by decide) rfl ([.ref (A (0, 0))]) rfl (Nat.le_of_ble_eq_true rfl) (by decide) dX11_parts_3 (fun cls9 A9 h9 hE9 => by obtain ⟨q9, rfl, rfl, rfl⟩ := hE9; exact v_out C hnx ⟨(by rw [show (X_X11_parts g a) = (X_X11_needGroup g (a)) from (by rw [X_X11_parts, if_neg q9])]; exact q9), (by rw [show (X_X11_parts g a) = (X_X11_needGroup g (a)) from (by rw [X_X11_parts, if_neg q9])]), rfl, rfl⟩ (by decide) (by decide)) (fun v9 A9 h9 hR9 => ?_)
  obtain ⟨x_1, rfl, hA9, rfl⟩ := hR9
  obtain rfl := hA9.symm
  refine v_st (k2 := 1) (n2 := 6) (st2 := [.ref (A (27, (a).toNatClampNeg)), .ref (A (0, 0))]) rfl rfl rfl ?_
  refine v_callV (pc := 6) C (0, 0) ck_0 rfl (c_X11_partsOf hG ((a).toNatClampNeg) (ok_needGroup x_1) hI) 1 wd_762 wd_62 wd_759 wd_761 wd_16 (by decide +kernel) (by decide) (by decide) rfl ([]) rfl (Nat.le_of_ble_eq_true rfl) (by decide) dX11_parts_6 (fun _ _ _ q => q.elim) (fun v9 A9 h9 hR9 => ?_)
  obtain ⟨rfl, hA9, rfl⟩ := hR9
  obtain rfl := hA9.symm
  refine v_st (k2 := 1) (n2 := 6) (st2 := [.int ((V_X11_partsOf g ((a).toNatClampNeg)))]) rfl rfl rfl ?_
  exact v_iret (pc := 9) C (by decide) (by decide) dX11_parts_9 ⟨(by rw [X_X11_parts, if_pos x_1]), (congrArg (fun q => some (Value.int q)) (by show _ = _; rw [V_X11_parts, if_pos x_1])), rfl, rfl⟩
def X_X11_cipher (g : vS) (a : Int32) (x : Int32) : Nat := (if (X_X11_needPart g (a) (x)) = 0 then 0 else (X_X11_needPart g (a) (x)))
def V_X11_cipher (g : vS) (a : Int32) (x : Int32) : Int32 := (if (X_X11_needPart g (a) (x)) = 0 then (g 58 (a).toNatClampNeg (x).toNatClampNeg) else 0)
set_option maxHeartbeats 4000000 in
set_option maxRecDepth 100000 in
theorem c_X11_cipher {G : vG} (hG : G.1.stackTraces = false) {A : vN → Nat} {g : vS} {r : vH} (a : Int32) (x : Int32)  : vCt G yX11_cipher cX11_cipher 3 (some .int) 2 [.ref (A (0, 0)), .int (a), .int (x)] A (w g r) (fun v A2 h2 => X_X11_cipher g a x = 0 ∧ v = some (.int (V_X11_cipher g a x)) ∧ A2 = A ∧ h2 = w g r) (fun cls A2 h2 => X_X11_cipher g a x ≠ 0 ∧ cls = vEx (X_X11_cipher g a x) ∧ A2 = A ∧ h2 = w g r) 3 18 := by
  refine v_of hG (by decide +kernel) (Nat.le_of_ble_eq_true rfl) (lv := [(0, .ref (A (0, 0))), (1, .int (a)), (2, .int (x))]) rfl (fun X C hnx => ?_)
  have C : vC G X cX11_cipher 3 RX11 (some .int) "cipher" 2 3 18 := C
  refine v_aload_n (pc := 0) C dX11_cipher_0 0 rfl rfl ?_
  refine v_iload_n (pc := 1) C dX11_cipher_1 1 rfl rfl ?_
  refine v_iload_n (pc := 2) C dX11_cipher_2 2 rfl rfl ?_
  refine v_callV (pc := 3) C (0, 0) ck_0 rfl (c_X11_needPart hG (a) (x) ) 2 wd_821 wd_62 wd_818 wd_820 wd_18 (by decide +kernel) (by decide) (by decide) rfl ([]) rfl (Nat.le_of_ble_eq_true rfl) (by decide) dX11_cipher_3 (fun cls9 A9 h9 hE9 => by obtain ⟨q9, rfl, rfl, rfl⟩ := hE9; exact v_out C hnx ⟨(by rw [show (X_X11_cipher g a x) = (X_X11_needPart g (a) (x)) from (by rw [X_X11_cipher, if_neg q9])]; exact q9), (by rw [show (X_X11_cipher g a x) = (X_X11_needPart g (a) (x)) from (by rw [X_X11_cipher, if_neg q9])]), rfl, rfl⟩ (by decide) (by decide)) (fun v9 A9 h9 hR9 => ?_)
  obtain ⟨x_1, rfl, hA9, rfl⟩ := hR9
  obtain rfl := hA9.symm
  refine v_st (k2 := 3) (n2 := 18) (st2 := [.ref (A (32, 8 * (a).toNatClampNeg + (x).toNatClampNeg))]) rfl rfl rfl ?_
  refine v_get (pc := 6) C (32, 8 * (a).toNatClampNeg + (x).toNatClampNeg) (v := .int ((g 58 (a).toNatClampNeg (x).toNatClampNeg))) (ck_32 (g := g) (ok_needPart x_1).1 (ok_needPart x_1).2) rfl 2 (by decide) inX6 wd_784 rfl rfl dX11_cipher_6 ?_
  exact v_iret (pc := 9) C (by decide) (by decide) dX11_cipher_9 ⟨(by rw [X_X11_cipher, if_pos x_1]), (congrArg (fun q => some (Value.int q)) (by show _ = _; rw [V_X11_cipher, if_pos x_1])), rfl, rfl⟩
def X_X11_version (g : vS) (a : Int32) (x : Int32) : Nat := (if (X_X11_needPart g (a) (x)) = 0 then 0 else (X_X11_needPart g (a) (x)))
def V_X11_version (g : vS) (a : Int32) (x : Int32) : Int32 := (if (X_X11_needPart g (a) (x)) = 0 then (g 57 (a).toNatClampNeg (x).toNatClampNeg) else 0)
set_option maxHeartbeats 4000000 in
set_option maxRecDepth 100000 in
theorem c_X11_version {G : vG} (hG : G.1.stackTraces = false) {A : vN → Nat} {g : vS} {r : vH} (a : Int32) (x : Int32)  : vCt G yX11_version cX11_version 3 (some .int) 2 [.ref (A (0, 0)), .int (a), .int (x)] A (w g r) (fun v A2 h2 => X_X11_version g a x = 0 ∧ v = some (.int (V_X11_version g a x)) ∧ A2 = A ∧ h2 = w g r) (fun cls A2 h2 => X_X11_version g a x ≠ 0 ∧ cls = vEx (X_X11_version g a x) ∧ A2 = A ∧ h2 = w g r) 3 18 := by
  refine v_of hG (by decide +kernel) (Nat.le_of_ble_eq_true rfl) (lv := [(0, .ref (A (0, 0))), (1, .int (a)), (2, .int (x))]) rfl (fun X C hnx => ?_)
  have C : vC G X cX11_version 3 RX11 (some .int) "version" 2 3 18 := C
  refine v_aload_n (pc := 0) C dX11_version_0 0 rfl rfl ?_
  refine v_iload_n (pc := 1) C dX11_version_1 1 rfl rfl ?_
  refine v_iload_n (pc := 2) C dX11_version_2 2 rfl rfl ?_
  refine v_callV (pc := 3) C (0, 0) ck_0 rfl (c_X11_needPart hG (a) (x) ) 2 wd_821 wd_62 wd_818 wd_820 wd_18 (by decide +kernel) (by decide) (by decide) rfl ([]) rfl (Nat.le_of_ble_eq_true rfl) (by decide) dX11_version_3 (fun cls9 A9 h9 hE9 => by obtain ⟨q9, rfl, rfl, rfl⟩ := hE9; exact v_out C hnx ⟨(by rw [show (X_X11_version g a x) = (X_X11_needPart g (a) (x)) from (by rw [X_X11_version, if_neg q9])]; exact q9), (by rw [show (X_X11_version g a x) = (X_X11_needPart g (a) (x)) from (by rw [X_X11_version, if_neg q9])]), rfl, rfl⟩ (by decide) (by decide)) (fun v9 A9 h9 hR9 => ?_)
  obtain ⟨x_1, rfl, hA9, rfl⟩ := hR9
  obtain rfl := hA9.symm
  refine v_st (k2 := 3) (n2 := 18) (st2 := [.ref (A (32, 8 * (a).toNatClampNeg + (x).toNatClampNeg))]) rfl rfl rfl ?_
  refine v_get (pc := 6) C (32, 8 * (a).toNatClampNeg + (x).toNatClampNeg) (v := .int ((g 57 (a).toNatClampNeg (x).toNatClampNeg))) (ck_32 (g := g) (ok_needPart x_1).1 (ok_needPart x_1).2) rfl 4 (by decide) inX6 wd_788 rfl rfl dX11_version_6 ?_
  exact v_iret (pc := 9) C (by decide) (by decide) dX11_version_9 ⟨(by rw [X_X11_version, if_pos x_1]), (congrArg (fun q => some (Value.int q)) (by show _ = _; rw [V_X11_version, if_pos x_1])), rfl, rfl⟩
def X_X11_spoil (g : vS) (a : Int32) (x : Int32) (b : Int32) : Nat := (if (X_X11_needPart g (a) (x)) = 0 then 0 else (X_X11_needPart g (a) (x)))
def V_X11_spoil (g : vS) (a : Int32) (x : Int32) (b : Int32) : Int32 := (if (X_X11_needPart g (a) (x)) = 0 then ((g 58 (a).toNatClampNeg (x).toNatClampNeg) ^^^ b) else 0)
def S_X11_spoil (g : vS) (a : Int32) (x : Int32) (b : Int32) : vS := (if (X_X11_needPart g (a) (x)) = 0 then (s3 g 58 (a).toNatClampNeg (x).toNatClampNeg (((g 58 (a).toNatClampNeg (x).toNatClampNeg) ^^^ b))) else g)
theorem F_X11_spoil {g : vS} {a : Int32} {x : Int32} {b : Int32} {c i j : Nat} (h58 : c ≠ 58) : S_X11_spoil g a x b c i j = g c i j := by
  unfold S_X11_spoil
  (repeat' split) <;> first | rfl | ((simp only [s3_k h58]) <;> first | done | rfl)
set_option maxHeartbeats 4000000 in
set_option maxRecDepth 100000 in
theorem c_X11_spoil {G : vG} (hG : G.1.stackTraces = false) {A : vN → Nat} {g : vS} {r : vH} (a : Int32) (x : Int32) (b : Int32)  : vCt G yX11_spoil cX11_spoil 5 (some .int) 2 [.ref (A (0, 0)), .int (a), .int (x), .int (b)] A (w g r) (fun v A2 h2 => X_X11_spoil g a x b = 0 ∧ v = some (.int (V_X11_spoil g a x b)) ∧ A2 = A ∧ h2 = w (S_X11_spoil g a x b) r) (fun cls A2 h2 => X_X11_spoil g a x b ≠ 0 ∧ cls = vEx (X_X11_spoil g a x b) ∧ A2 = A ∧ h2 = w (S_X11_spoil g a x b) r) 3 18 := by
  refine v_of hG (by decide +kernel) (Nat.le_of_ble_eq_true rfl) (lv := [(0, .ref (A (0, 0))), (1, .int (a)), (2, .int (x)), (3, .int (b))]) rfl (fun X C hnx => ?_)
  have C : vC G X cX11_spoil 5 RX11 (some .int) "spoil" 2 3 18 := C
  refine v_aload_n (pc := 0) C dX11_spoil_0 0 rfl rfl ?_
  refine v_iload_n (pc := 1) C dX11_spoil_1 1 rfl rfl ?_
  refine v_iload_n (pc := 2) C dX11_spoil_2 2 rfl rfl ?_
  refine v_callV (pc := 3) C (0, 0) ck_0 rfl (c_X11_needPart hG (a) (x) ) 2 wd_821 wd_62 wd_818 wd_820 wd_18 (by decide +kernel) (by decide) (by decide) rfl ([]) rfl (Nat.le_of_ble_eq_true rfl) (by decide) dX11_spoil_3 (fun cls9 A9 h9 hE9 => by obtain ⟨q9, rfl, rfl, rfl⟩ := hE9; exact v_out C hnx ⟨(by rw [show (X_X11_spoil g a x b) = (X_X11_needPart g (a) (x)) from (by rw [X_X11_spoil, if_neg q9])]; exact q9), (by rw [show (X_X11_spoil g a x b) = (X_X11_needPart g (a) (x)) from (by rw [X_X11_spoil, if_neg q9])]), rfl, (congrArg (fun q => w q r) (by show _ = _; rw [S_X11_spoil, if_neg q9]))⟩ (by decide) (by decide)) (fun v9 A9 h9 hR9 => ?_)
  obtain ⟨x_1, rfl, hA9, rfl⟩ := hR9
  obtain rfl := hA9.symm
  refine v_st (k2 := 3) (n2 := 18) (st2 := [.ref (A (32, 8 * (a).toNatClampNeg + (x).toNatClampNeg))]) rfl rfl rfl ?_
  refine v_astore (lv2 := [(4, .ref (A (32, 8 * (a).toNatClampNeg + (x).toNatClampNeg))), (0, .ref (A (0, 0))), (1, .int (a)), (2, .int (x)), (3, .int (b))]) (pc := 6) C dX11_spoil_6 (by decide) rfl ?_
  refine v_aload (pc := 8) C dX11_spoil_8 0 rfl ?_
  refine v_dup (pc := 10) C dX11_spoil_10 rfl ?_
  refine v_get (pc := 11) C (32, 8 * (a).toNatClampNeg + (x).toNatClampNeg) (v := .int ((g 58 (a).toNatClampNeg (x).toNatClampNeg))) (ck_32 (g := g) (ok_needPart x_1).1 (ok_needPart x_1).2) rfl 2 (by decide) inX6 wd_784 rfl rfl dX11_spoil_11 ?_
  refine v_iload_n (pc := 14) C dX11_spoil_14 4 rfl rfl ?_
  refine v_ixor (pc := 15) C dX11_spoil_15 ?_
  refine v_put (pc := 16) C (32, 8 * (a).toNatClampNeg + (x).toNatClampNeg) (v := .int (((g 58 (a).toNatClampNeg (x).toNatClampNeg) ^^^ b))) (ck_32 (g := g) (ok_needPart x_1).1 (ok_needPart x_1).2) rfl 2 (by decide) inX6 tyX6 tyX6_ok nmX6 wd_784 rfl (.inl (Value.int (((g 58 (a).toNatClampNeg (x).toNatClampNeg) ^^^ b)))) rfl (ty := tyX6 2) (by decide +kernel) rfl rfl (Nat.le_of_ble_eq_true rfl) dX11_spoil_16 ?_
  refine v_h (h2 := (w (s3 g 58 (a).toNatClampNeg (x).toNatClampNeg (((g 58 (a).toNatClampNeg (x).toNatClampNeg) ^^^ b))) r)) (u_32_2 (g := g) (ok_needPart x_1).1 (ok_needPart x_1).2) ?_
  refine v_aload (pc := 19) C dX11_spoil_19 0 rfl ?_
  refine v_get (pc := 21) C (32, 8 * (a).toNatClampNeg + (x).toNatClampNeg) (v := .int (((g 58 (a).toNatClampNeg (x).toNatClampNeg) ^^^ b))) (ck_32 (g := (s3 g 58 (a).toNatClampNeg (x).toNatClampNeg (((g 58 (a).toNatClampNeg (x).toNatClampNeg) ^^^ b)))) (ok_needPart x_1).1 (ok_needPart x_1).2) rfl 2 (by decide) inX6 wd_784 rfl (congrArg Value.int (s3_s)) dX11_spoil_21 ?_
  exact v_iret (pc := 24) C (by decide) (by decide) dX11_spoil_24 ⟨(by rw [X_X11_spoil, if_pos x_1]), (congrArg (fun q => some (Value.int q)) (by show _ = _; rw [V_X11_spoil, if_pos x_1])), rfl, (congrArg (fun q => w q r) (by show _ = _; rw [S_X11_spoil, if_pos x_1]))⟩
def X_X11_read (g : vS) (u : Int32) (a : Int32) (x : Int32) : Nat := (if (X_X11_needUser g (u)) = 0 then (if (X_X11_needFile g (a)) = 0 then (if (X_X11_needPart g (a) (x)) = 0 then (if (g 53 (a).toNatClampNeg 0) = 0 then (if (V_X4_isSpoiled g ((a).toNatClampNeg)) = 0 then (if (V_X11_isKeyKnown g (u) ((a).toNatClampNeg) ((x).toNatClampNeg)) = 0 then 4 else 0) else 3) else 3) else (X_X11_needPart g (a) (x))) else (X_X11_needFile g (a))) else (X_X11_needUser g (u)))
def V_X11_read (g : vS) (u : Int32) (a : Int32) (x : Int32) : Int32 := (if (X_X11_needUser g (u)) = 0 then (if (X_X11_needFile g (a)) = 0 then (if (X_X11_needPart g (a) (x)) = 0 then (if (g 53 (a).toNatClampNeg 0) = 0 then (if (V_X4_isSpoiled g ((a).toNatClampNeg)) = 0 then (if (V_X11_isKeyKnown g (u) ((a).toNatClampNeg) ((x).toNatClampNeg)) = 0 then 0 else (V_X6_opened g ((a).toNatClampNeg) ((x).toNatClampNeg))) else 0) else 0) else 0) else 0) else 0)
set_option maxHeartbeats 4000000 in
set_option maxRecDepth 100000 in
theorem c_X11_read {G : vG} (hG : G.1.stackTraces = false) {A : vN → Nat} {g : vS} {r : vH} (u : Int32) (a : Int32) (x : Int32) (hI : vI1 g) : vCt G yX11_read cX11_read 6 (some .int) 4 [.ref (A (0, 0)), .int (u), .int (a), .int (x)] A (w g r) (fun v A2 h2 => X_X11_read g u a x = 0 ∧ v = some (.int (V_X11_read g u a x)) ∧ A2 = A ∧ h2 = w g r) (fun cls A2 h2 => X_X11_read g u a x ≠ 0 ∧ cls = vEx (X_X11_read g u a x) ∧ A2 = A ∧ h2 = w g r) 6 36 := by
  refine v_of hG (by decide +kernel) (Nat.le_of_ble_eq_true rfl) (lv := [(0, .ref (A (0, 0))), (1, .int (u)), (2, .int (a)), (3, .int (x))]) rfl (fun X C hnx => ?_)
  have C : vC G X cX11_read 6 RX11 (some .int) "read" 4 6 36 := C
  refine v_aload_n (pc := 0) C dX11_read_0 0 rfl rfl ?_
  refine v_iload_n (pc := 1) C dX11_read_1 1 rfl rfl ?_
  refine v_callV (pc := 2) C (0, 0) ck_0 rfl (c_X11_needUser hG (u) ) 1 wd_513 wd_62 wd_510 wd_512 wd_5 (by decide +kernel) (by decide) (by decide) rfl ([]) rfl (Nat.le_of_ble_eq_true rfl) (by decide) dX11_read_2 (fun cls9 A9 h9 hE9 => by obtain ⟨q9, rfl, rfl, rfl⟩ := hE9; exact v_out C hnx ⟨(by rw [show (X_X11_read g u a x) = (X_X11_needUser g (u)) from (by rw [X_X11_read, if_neg q9])]; exact q9), (by rw [show (X_X11_read g u a x) = (X_X11_needUser g (u)) from (by rw [X_X11_read, if_neg q9])]), rfl, rfl⟩ (by decide) (by decide)) (fun v9 A9 h9 hR9 => ?_)
  obtain ⟨x_1, rfl, hA9, rfl⟩ := hR9
  obtain rfl := hA9.symm
  refine v_st (k2 := 1) (n2 := 6) (st2 := [.ref (A (22, (u).toNatClampNeg))]) rfl rfl rfl ?_
  refine v_pop (pc := 5) C dX11_read_5 rfl ?_
  refine v_aload_n (pc := 6) C dX11_read_6 0 rfl rfl ?_
  refine v_iload_n (pc := 7) C dX11_read_7 2 rfl rfl ?_
  refine v_callV (pc := 8) C (0, 0) ck_0 rfl (c_X11_needFile hG (a) ) 1 wd_748 wd_62 wd_745 wd_747 wd_13 (by decide +kernel) (by decide) (by decide) rfl ([]) rfl (Nat.le_of_ble_eq_true rfl) (by decide) dX11_read_8 (fun cls9 A9 h9 hE9 => by obtain ⟨q9, rfl, rfl, rfl⟩ := hE9; exact v_out C hnx ⟨(by rw [show (X_X11_read g u a x) = (X_X11_needFile g (a)) from (by rw [X_X11_read, if_pos x_1, if_neg q9])]; exact q9), (by rw [show (X_X11_read g u a x) = (X_X11_needFile g (a)) from (by rw [X_X11_read, if_pos x_1, if_neg q9])]), rfl, rfl⟩ (by decide) (by decide)) (fun v9 A9 h9 hR9 => ?_)
  obtain ⟨x_2, rfl, hA9, rfl⟩ := hR9
  obtain rfl := hA9.symm
  refine v_st (k2 := 2) (n2 := 12) (st2 := [.ref (A (30, (a).toNatClampNeg))]) rfl rfl rfl ?_
  refine v_astore (lv2 := [(4, .ref (A (30, (a).toNatClampNeg))), (0, .ref (A (0, 0))), (1, .int (u)), (2, .int (a)), (3, .int (x))]) (pc := 11) C dX11_read_11 (by decide) rfl ?_
  refine v_aload_n (pc := 13) C dX11_read_13 1 rfl rfl ?_
  refine v_iload_n (pc := 14) C dX11_read_14 3 rfl rfl ?_
  refine v_iload_n (pc := 15) C dX11_read_15 4 rfl rfl ?_
  refine v_callV (pc := 16) C (0, 0) ck_0 rfl (c_X11_needPart hG (a) (x) ) 2 wd_821 wd_62 wd_818 wd_820 wd_18 (by decide +kernel) (by decide) (by decide) rfl ([]) rfl (Nat.le_of_ble_eq_true rfl) (by decide) dX11_read_16 (fun cls9 A9 h9 hE9 => by obtain ⟨q9, rfl, rfl, rfl⟩ := hE9; exact v_out C hnx ⟨(by rw [show (X_X11_read g u a x) = (X_X11_needPart g (a) (x)) from (by rw [X_X11_read, if_pos x_1, if_pos x_2, if_neg q9])]; exact q9), (by rw [show (X_X11_read g u a x) = (X_X11_needPart g (a) (x)) from (by rw [X_X11_read, if_pos x_1, if_pos x_2, if_neg q9])]), rfl, rfl⟩ (by decide) (by decide)) (fun v9 A9 h9 hR9 => ?_)
  obtain ⟨x_3, rfl, hA9, rfl⟩ := hR9
  obtain rfl := hA9.symm
  refine v_st (k2 := 5) (n2 := 30) (st2 := [.ref (A (32, 8 * (a).toNatClampNeg + (x).toNatClampNeg))]) rfl rfl rfl ?_
  refine v_astore (lv2 := [(5, .ref (A (32, 8 * (a).toNatClampNeg + (x).toNatClampNeg))), (4, .ref (A (30, (a).toNatClampNeg))), (0, .ref (A (0, 0))), (1, .int (u)), (2, .int (a)), (3, .int (x))]) (pc := 19) C dX11_read_19 (by decide) rfl ?_
  refine v_aload (pc := 21) C dX11_read_21 1 rfl ?_
  refine v_get (pc := 23) C (30, (a).toNatClampNeg) (v := .int ((g 53 (a).toNatClampNeg 0))) (ck_30 (g := g) (ok_needFile x_2)) rfl 5 (by decide) inX4 wd_715 rfl rfl dX11_read_23 ?_
  refine v_if_ne (pc := 26) (tgt := 37) C dX11_read_26 (by decide) (fun c_4 => ?_) (fun c_4 => ?_)
  · skip
    exact v_throw (pc := 37) C hnx (cls := "java/lang/IllegalStateException") (text := "the file is thrown away or spoiled") (by decide +kernel) wd_431 wd_73 (by decide +kernel) at_IllegalStateException (by decide) (by decide) (by decide) dX11_read_37 dX11_read_40 dX11_read_41 dX11_read_43 dX11_read_46 ⟨by rw [show (X_X11_read g u a x) = 3 from (by rw [X_X11_read, if_pos x_1, if_pos x_2, if_pos x_3, if_neg c_4])]; decide, by rw [show (X_X11_read g u a x) = 3 from (by rw [X_X11_read, if_pos x_1, if_pos x_2, if_pos x_3, if_neg c_4])]; rfl, rfl, rfl⟩
  · skip
    refine v_aload (pc := 29) C dX11_read_29 1 rfl ?_
    refine v_callV (pc := 31) C (30, (a).toNatClampNeg) (ck_30 (g := g) (ok_needFile x_2)) rfl (c_X4_isSpoiled hG ((a).toNatClampNeg) (ok_needFile x_2)) 0 wd_305 wd_80 wd_302 wd_303 wd_304 (by decide +kernel) (by decide) (by decide) rfl ([]) rfl (Nat.le_of_ble_eq_true rfl) (by decide) dX11_read_31 (fun _ _ _ q => q.elim) (fun v9 A9 h9 hR9 => ?_)
    obtain ⟨rfl, hA9, rfl⟩ := hR9
    obtain rfl := hA9.symm
    refine v_st (k2 := 5) (n2 := 30) (st2 := [.int ((V_X4_isSpoiled g ((a).toNatClampNeg)))]) rfl rfl rfl ?_
    refine v_if_eq (pc := 34) (tgt := 47) C dX11_read_34 (by decide) (fun c_5 => ?_) (fun c_5 => ?_)
    · skip
      refine v_aload_n (pc := 47) C dX11_read_47 2 rfl rfl ?_
      refine v_iload_n (pc := 48) C dX11_read_48 3 rfl rfl ?_
      refine v_aload (pc := 49) C dX11_read_49 1 rfl ?_
      refine v_aload (pc := 51) C dX11_read_51 0 rfl ?_
      refine v_callV (pc := 53) C (0, 0) ck_0 rfl (c_X11_isKeyKnown hG (u) ((a).toNatClampNeg) ((x).toNatClampNeg) (ok_needFile x_2) (ok_needPart x_3).1 (ok_needPart x_3).2 hI) 3 wd_341 wd_62 wd_338 wd_340 wd_3 (by decide +kernel) (by decide) (by decide) rfl ([]) rfl (Nat.le_of_ble_eq_true rfl) (by decide) dX11_read_53 (fun _ _ _ q => q.elim) (fun v9 A9 h9 hR9 => ?_)
      obtain ⟨rfl, hA9, rfl⟩ := hR9
      obtain rfl := hA9.symm
      refine v_st (k2 := 5) (n2 := 30) (st2 := [.int ((V_X11_isKeyKnown g (u) ((a).toNatClampNeg) ((x).toNatClampNeg)))]) rfl rfl rfl ?_
      refine v_if_ne (pc := 56) (tgt := 69) C dX11_read_56 (by decide) (fun c_6 => ?_) (fun c_6 => ?_)
      · skip
        refine v_aload (pc := 69) C dX11_read_69 0 rfl ?_
        refine v_callV (pc := 71) C (32, 8 * (a).toNatClampNeg + (x).toNatClampNeg) (ck_32 (g := g) (ok_needPart x_3).1 (ok_needPart x_3).2) rfl (c_X6_opened hG ((a).toNatClampNeg) ((x).toNatClampNeg) (ok_needPart x_3).1 (ok_needPart x_3).2) 0 wd_325 wd_81 wd_322 wd_323 wd_324 (by decide +kernel) (by decide) (by decide) rfl ([]) rfl (Nat.le_of_ble_eq_true rfl) (by decide) dX11_read_71 (fun _ _ _ q => q.elim) (fun v9 A9 h9 hR9 => ?_)
        obtain ⟨rfl, hA9, rfl⟩ := hR9
        obtain rfl := hA9.symm
        refine v_st (k2 := 5) (n2 := 30) (st2 := [.int ((V_X6_opened g ((a).toNatClampNeg) ((x).toNatClampNeg)))]) rfl rfl rfl ?_
        exact v_iret (pc := 74) C (by decide) (by decide) dX11_read_74 ⟨(by rw [X_X11_read, if_pos x_1, if_pos x_2, if_pos x_3, if_pos c_4, if_pos c_5, if_neg c_6]), (congrArg (fun q => some (Value.int q)) (by show _ = _; rw [V_X11_read, if_pos x_1, if_pos x_2, if_pos x_3, if_pos c_4, if_pos c_5, if_neg c_6])), rfl, rfl⟩
      · skip
        exact v_throw (pc := 59) C hnx (cls := "java/lang/UnsupportedOperationException") (text := "the user cannot read it") (by decide +kernel) wd_684 wd_79 (by decide +kernel) at_UnsupportedOperationException (by decide) (by decide) (by decide) dX11_read_59 dX11_read_62 dX11_read_63 dX11_read_65 dX11_read_68 ⟨by rw [show (X_X11_read g u a x) = 4 from (by rw [X_X11_read, if_pos x_1, if_pos x_2, if_pos x_3, if_pos c_4, if_pos c_5, if_pos c_6])]; decide, by rw [show (X_X11_read g u a x) = 4 from (by rw [X_X11_read, if_pos x_1, if_pos x_2, if_pos x_3, if_pos c_4, if_pos c_5, if_pos c_6])]; rfl, rfl, rfl⟩
    · skip
      exact v_throw (pc := 37) C hnx (cls := "java/lang/IllegalStateException") (text := "the file is thrown away or spoiled") (by decide +kernel) wd_431 wd_73 (by decide +kernel) at_IllegalStateException (by decide) (by decide) (by decide) dX11_read_37 dX11_read_40 dX11_read_41 dX11_read_43 dX11_read_46 ⟨by rw [show (X_X11_read g u a x) = 3 from (by rw [X_X11_read, if_pos x_1, if_pos x_2, if_pos x_3, if_pos c_4, if_neg c_5])]; decide, by rw [show (X_X11_read g u a x) = 3 from (by rw [X_X11_read, if_pos x_1, if_pos x_2, if_pos x_3, if_pos c_4, if_neg c_5])]; rfl, rfl, rfl⟩
def X_X11_canRead (g : vS) (u : Int32) (a : Int32) (x : Int32) : Nat := (if (X_X11_needUser g (u)) = 0 then (if (X_X11_needFile g (a)) = 0 then (if (X_X11_needPart g (a) (x)) = 0 then 0 else (X_X11_needPart g (a) (x))) else (X_X11_needFile g (a))) else (X_X11_needUser g (u)))
def V_X11_canRead (g : vS) (u : Int32) (a : Int32) (x : Int32) : Int32 := (if (X_X11_needUser g (u)) = 0 then (if (X_X11_needFile g (a)) = 0 then (if (X_X11_needPart g (a) (x)) = 0 then (V_X11_isKeyKnown g (u) ((a).toNatClampNeg) ((x).toNatClampNeg)) else 0) else 0) else 0)
theorem B_X11_canRead {g : vS} {u : Int32} {a : Int32} {x : Int32} : V_X11_canRead g u a x = 0 ∨ V_X11_canRead g u a x = 1 := by
  unfold V_X11_canRead
  (repeat' split) <;> first | exact Or.inl rfl | exact Or.inr rfl | exact B_X11_isKeyKnown
set_option maxHeartbeats 4000000 in
set_option maxRecDepth 100000 in
theorem c_X11_canRead {G : vG} (hG : G.1.stackTraces = false) {A : vN → Nat} {g : vS} {r : vH} (u : Int32) (a : Int32) (x : Int32) (hI : vI1 g) : vCt G yX11_canRead cX11_canRead 5 (some .boolean) 3 [.ref (A (0, 0)), .int (u), .int (a), .int (x)] A (w g r) (fun v A2 h2 => X_X11_canRead g u a x = 0 ∧ v = some (.int (V_X11_canRead g u a x)) ∧ A2 = A ∧ h2 = w g r) (fun cls A2 h2 => X_X11_canRead g u a x ≠ 0 ∧ cls = vEx (X_X11_canRead g u a x) ∧ A2 = A ∧ h2 = w g r) 5 30 := by
  refine v_of hG (by decide +kernel) (Nat.le_of_ble_eq_true rfl) (lv := [(0, .ref (A (0, 0))), (1, .int (u)), (2, .int (a)), (3, .int (x))]) rfl (fun X C hnx => ?_)
  have C : vC G X cX11_canRead 5 RX11 (some .boolean) "canRead" 3 5 30 := C
  refine v_aload_n (pc := 0) C dX11_canRead_0 0 rfl rfl ?_
  refine v_iload_n (pc := 1) C dX11_canRead_1 1 rfl rfl ?_
  refine v_callV (pc := 2) C (0, 0) ck_0 rfl (c_X11_needUser hG (u) ) 1 wd_513 wd_62 wd_510 wd_512 wd_5 (by decide +kernel) (by decide) (by decide) rfl ([]) rfl (Nat.le_of_ble_eq_true rfl) (by decide) dX11_canRead_2 (fun cls9 A9 h9 hE9 => by obtain ⟨q9, rfl, rfl, rfl⟩ := hE9; exact v_out C hnx ⟨(by rw [show (X_X11_canRead g u a x) = (X_X11_needUser g (u)) from (by rw [X_X11_canRead, if_neg q9])]; exact q9), (by rw [show (X_X11_canRead g u a x) = (X_X11_needUser g (u)) from (by rw [X_X11_canRead, if_neg q9])]), rfl, rfl⟩ (by decide) (by decide)) (fun v9 A9 h9 hR9 => ?_)
  obtain ⟨x_1, rfl, hA9, rfl⟩ := hR9
  obtain rfl := hA9.symm
  refine v_st (k2 := 1) (n2 := 6) (st2 := [.ref (A (22, (u).toNatClampNeg))]) rfl rfl rfl ?_
  refine v_pop (pc := 5) C dX11_canRead_5 rfl ?_
  refine v_aload_n (pc := 6) C dX11_canRead_6 0 rfl rfl ?_
  refine v_iload_n (pc := 7) C dX11_canRead_7 2 rfl rfl ?_
  refine v_callV (pc := 8) C (0, 0) ck_0 rfl (c_X11_needFile hG (a) ) 1 wd_748 wd_62 wd_745 wd_747 wd_13 (by decide +kernel) (by decide) (by decide) rfl ([]) rfl (Nat.le_of_ble_eq_true rfl) (by decide) dX11_canRead_8 (fun cls9 A9 h9 hE9 => by obtain ⟨q9, rfl, rfl, rfl⟩ := hE9; exact v_out C hnx ⟨(by rw [show (X_X11_canRead g u a x) = (X_X11_needFile g (a)) from (by rw [X_X11_canRead, if_pos x_1, if_neg q9])]; exact q9), (by rw [show (X_X11_canRead g u a x) = (X_X11_needFile g (a)) from (by rw [X_X11_canRead, if_pos x_1, if_neg q9])]), rfl, rfl⟩ (by decide) (by decide)) (fun v9 A9 h9 hR9 => ?_)
  obtain ⟨x_2, rfl, hA9, rfl⟩ := hR9
  obtain rfl := hA9.symm
  refine v_st (k2 := 2) (n2 := 12) (st2 := [.ref (A (30, (a).toNatClampNeg))]) rfl rfl rfl ?_
  refine v_astore (lv2 := [(4, .ref (A (30, (a).toNatClampNeg))), (0, .ref (A (0, 0))), (1, .int (u)), (2, .int (a)), (3, .int (x))]) (pc := 11) C dX11_canRead_11 (by decide) rfl ?_
  refine v_aload_n (pc := 13) C dX11_canRead_13 1 rfl rfl ?_
  refine v_iload_n (pc := 14) C dX11_canRead_14 2 rfl rfl ?_
  refine v_aload (pc := 15) C dX11_canRead_15 0 rfl ?_
  refine v_aload_n (pc := 17) C dX11_canRead_17 1 rfl rfl ?_
  refine v_iload_n (pc := 18) C dX11_canRead_18 3 rfl rfl ?_
  refine v_iload_n (pc := 19) C dX11_canRead_19 4 rfl rfl ?_
  refine v_callV (pc := 20) C (0, 0) ck_0 rfl (c_X11_needPart hG (a) (x) ) 2 wd_821 wd_62 wd_818 wd_820 wd_18 (by decide +kernel) (by decide) (by decide) rfl ([.ref (A (30, (a).toNatClampNeg)), .int (u), .ref (A (0, 0))]) rfl (Nat.le_of_ble_eq_true rfl) (by decide) dX11_canRead_20 (fun cls9 A9 h9 hE9 => by obtain ⟨q9, rfl, rfl, rfl⟩ := hE9; exact v_out C hnx ⟨(by rw [show (X_X11_canRead g u a x) = (X_X11_needPart g (a) (x)) from (by rw [X_X11_canRead, if_pos x_1, if_pos x_2, if_neg q9])]; exact q9), (by rw [show (X_X11_canRead g u a x) = (X_X11_needPart g (a) (x)) from (by rw [X_X11_canRead, if_pos x_1, if_pos x_2, if_neg q9])]), rfl, rfl⟩ (by decide) (by decide)) (fun v9 A9 h9 hR9 => ?_)
  obtain ⟨x_3, rfl, hA9, rfl⟩ := hR9
  obtain rfl := hA9.symm
  refine v_st (k2 := 5) (n2 := 30) (st2 := [.ref (A (32, 8 * (a).toNatClampNeg + (x).toNatClampNeg)), .ref (A (30, (a).toNatClampNeg)), .int (u), .ref (A (0, 0))]) rfl rfl rfl ?_
  refine v_callV (pc := 23) C (0, 0) ck_0 rfl (c_X11_isKeyKnown hG (u) ((a).toNatClampNeg) ((x).toNatClampNeg) (ok_needFile x_2) (ok_needPart x_3).1 (ok_needPart x_3).2 hI) 3 wd_341 wd_62 wd_338 wd_340 wd_3 (by decide +kernel) (by decide) (by decide) rfl ([]) rfl (Nat.le_of_ble_eq_true rfl) (by decide) dX11_canRead_23 (fun _ _ _ q => q.elim) (fun v9 A9 h9 hR9 => ?_)
  obtain ⟨rfl, hA9, rfl⟩ := hR9
  obtain rfl := hA9.symm
  refine v_st (k2 := 5) (n2 := 30) (st2 := [.int ((V_X11_isKeyKnown g (u) ((a).toNatClampNeg) ((x).toNatClampNeg)))]) rfl rfl rfl ?_
  exact v_zret (pc := 26) C (nar_b B_X11_isKeyKnown) (by decide) (by decide) dX11_canRead_26 ⟨(by rw [X_X11_canRead, if_pos x_1, if_pos x_2, if_pos x_3]), (congrArg (fun q => some (Value.int q)) (by show _ = _; rw [V_X11_canRead, if_pos x_1, if_pos x_2, if_pos x_3])), rfl, rfl⟩
def X_X11_canReadByGrants (g : vS) (u : Int32) (a : Int32) (x : Int32) : Nat := (if (X_X11_needUser g (u)) = 0 then (if (X_X11_needFile g (a)) = 0 then (if (X_X11_needPart g (a) (x)) = 0 then 0 else (X_X11_needPart g (a) (x))) else (X_X11_needFile g (a))) else (X_X11_needUser g (u)))
def V_X11_canReadByGrants (g : vS) (u : Int32) (a : Int32) (x : Int32) : Int32 := (if (X_X11_needUser g (u)) = 0 then (if (X_X11_needFile g (a)) = 0 then (if (X_X11_needPart g (a) (x)) = 0 then (V_X2_isShared (S_X2_replay g) ((g 48 ((g 50 (a).toNatClampNeg 0)).toNatClampNeg 0)) (u) ((g 60 (a).toNatClampNeg (x).toNatClampNeg))) else 0) else 0) else 0)
theorem B_X11_canReadByGrants {g : vS} {u : Int32} {a : Int32} {x : Int32} : V_X11_canReadByGrants g u a x = 0 ∨ V_X11_canReadByGrants g u a x = 1 := by
  unfold V_X11_canReadByGrants
  (repeat' split) <;> first | exact Or.inl rfl | exact Or.inr rfl | exact B_X2_isShared
def S_X11_canReadByGrants (g : vS) (u : Int32) (a : Int32) (x : Int32) : vS := (if (X_X11_needUser g (u)) = 0 then (if (X_X11_needFile g (a)) = 0 then (if (X_X11_needPart g (a) (x)) = 0 then (S_X2_replay g) else g) else g) else g)
theorem F_X11_canReadByGrants {g : vS} {u : Int32} {a : Int32} {x : Int32} {c i j : Nat} (h87 : c ≠ 87) : S_X11_canReadByGrants g u a x c i j = g c i j := by
  unfold S_X11_canReadByGrants
  (repeat' split) <;> first | rfl | ((simp only [s3_k h87, F_X2_replay h87]) <;> first | done | rfl)
set_option maxHeartbeats 4000000 in
set_option maxRecDepth 100000 in
theorem c_X11_canReadByGrants {G : vG} (hG : G.1.stackTraces = false) {A : vN → Nat} {g : vS} {r : vH} (u : Int32) (a : Int32) (x : Int32) (hI : vI1 g) : vCt G yX11_canReadByGrants cX11_canReadByGrants 6 (some .boolean) 2 [.ref (A (0, 0)), .int (u), .int (a), .int (x)] A (w g r) (fun v A2 h2 => X_X11_canReadByGrants g u a x = 0 ∧ v = some (.int (V_X11_canReadByGrants g u a x)) ∧ A2 = A ∧ h2 = w (S_X11_canReadByGrants g u a x) r) (fun cls A2 h2 => X_X11_canReadByGrants g u a x ≠ 0 ∧ cls = vEx (X_X11_canReadByGrants g u a x) ∧ A2 = A ∧ h2 = w (S_X11_canReadByGrants g u a x) r) 5 30 := by
  refine v_of hG (by decide +kernel) (Nat.le_of_ble_eq_true rfl) (lv := [(0, .ref (A (0, 0))), (1, .int (u)), (2, .int (a)), (3, .int (x))]) rfl (fun X C hnx => ?_)
  have C : vC G X cX11_canReadByGrants 6 RX11 (some .boolean) "canReadByGrants" 2 5 30 := C
  refine v_aload_n (pc := 0) C dX11_canReadByGrants_0 0 rfl rfl ?_
  refine v_iload_n (pc := 1) C dX11_canReadByGrants_1 1 rfl rfl ?_
  refine v_callV (pc := 2) C (0, 0) ck_0 rfl (c_X11_needUser hG (u) ) 1 wd_513 wd_62 wd_510 wd_512 wd_5 (by decide +kernel) (by decide) (by decide) rfl ([]) rfl (Nat.le_of_ble_eq_true rfl) (by decide) dX11_canReadByGrants_2 (fun cls9 A9 h9 hE9 => by obtain ⟨q9, rfl, rfl, rfl⟩ := hE9; exact v_out C hnx ⟨(by rw [show (X_X11_canReadByGrants g u a x) = (X_X11_needUser g (u)) from (by rw [X_X11_canReadByGrants, if_neg q9])]; exact q9), (by rw [show (X_X11_canReadByGrants g u a x) = (X_X11_needUser g (u)) from (by rw [X_X11_canReadByGrants, if_neg q9])]), rfl, (congrArg (fun q => w q r) (by show _ = _; rw [S_X11_canReadByGrants, if_neg q9]))⟩ (by decide) (by decide)) (fun v9 A9 h9 hR9 => ?_)
  obtain ⟨x_1, rfl, hA9, rfl⟩ := hR9
  obtain rfl := hA9.symm
  refine v_st (k2 := 1) (n2 := 6) (st2 := [.ref (A (22, (u).toNatClampNeg))]) rfl rfl rfl ?_
  refine v_pop (pc := 5) C dX11_canReadByGrants_5 rfl ?_
  refine v_aload_n (pc := 6) C dX11_canReadByGrants_6 0 rfl rfl ?_
  refine v_iload_n (pc := 7) C dX11_canReadByGrants_7 2 rfl rfl ?_
  refine v_callV (pc := 8) C (0, 0) ck_0 rfl (c_X11_needFile hG (a) ) 1 wd_748 wd_62 wd_745 wd_747 wd_13 (by decide +kernel) (by decide) (by decide) rfl ([]) rfl (Nat.le_of_ble_eq_true rfl) (by decide) dX11_canReadByGrants_8 (fun cls9 A9 h9 hE9 => by obtain ⟨q9, rfl, rfl, rfl⟩ := hE9; exact v_out C hnx ⟨(by rw [show (X_X11_canReadByGrants g u a x) = (X_X11_needFile g (a)) from (by rw [X_X11_canReadByGrants, if_pos x_1, if_neg q9])]; exact q9), (by rw [show (X_X11_canReadByGrants g u a x) = (X_X11_needFile g (a)) from (by rw [X_X11_canReadByGrants, if_pos x_1, if_neg q9])]), rfl, (congrArg (fun q => w q r) (by show _ = _; rw [S_X11_canReadByGrants, if_pos x_1, if_neg q9]))⟩ (by decide) (by decide)) (fun v9 A9 h9 hR9 => ?_)
  obtain ⟨x_2, rfl, hA9, rfl⟩ := hR9
  obtain rfl := hA9.symm
  refine v_st (k2 := 2) (n2 := 12) (st2 := [.ref (A (30, (a).toNatClampNeg))]) rfl rfl rfl ?_
  refine v_astore (lv2 := [(4, .ref (A (30, (a).toNatClampNeg))), (0, .ref (A (0, 0))), (1, .int (u)), (2, .int (a)), (3, .int (x))]) (pc := 11) C dX11_canReadByGrants_11 (by decide) rfl ?_
  refine v_aload_n (pc := 13) C dX11_canReadByGrants_13 1 rfl rfl ?_
  refine v_iload_n (pc := 14) C dX11_canReadByGrants_14 3 rfl rfl ?_
  refine v_iload_n (pc := 15) C dX11_canReadByGrants_15 4 rfl rfl ?_
  refine v_callV (pc := 16) C (0, 0) ck_0 rfl (c_X11_needPart hG (a) (x) ) 2 wd_821 wd_62 wd_818 wd_820 wd_18 (by decide +kernel) (by decide) (by decide) rfl ([]) rfl (Nat.le_of_ble_eq_true rfl) (by decide) dX11_canReadByGrants_16 (fun cls9 A9 h9 hE9 => by obtain ⟨q9, rfl, rfl, rfl⟩ := hE9; exact v_out C hnx ⟨(by rw [show (X_X11_canReadByGrants g u a x) = (X_X11_needPart g (a) (x)) from (by rw [X_X11_canReadByGrants, if_pos x_1, if_pos x_2, if_neg q9])]; exact q9), (by rw [show (X_X11_canReadByGrants g u a x) = (X_X11_needPart g (a) (x)) from (by rw [X_X11_canReadByGrants, if_pos x_1, if_pos x_2, if_neg q9])]), rfl, (congrArg (fun q => w q r) (by show _ = _; rw [S_X11_canReadByGrants, if_pos x_1, if_pos x_2, if_neg q9]))⟩ (by decide) (by decide)) (fun v9 A9 h9 hR9 => ?_)
  obtain ⟨x_3, rfl, hA9, rfl⟩ := hR9
  obtain rfl := hA9.symm
  refine v_st (k2 := 5) (n2 := 30) (st2 := [.ref (A (32, 8 * (a).toNatClampNeg + (x).toNatClampNeg))]) rfl rfl rfl ?_
  refine v_astore (lv2 := [(5, .ref (A (32, 8 * (a).toNatClampNeg + (x).toNatClampNeg))), (4, .ref (A (30, (a).toNatClampNeg))), (0, .ref (A (0, 0))), (1, .int (u)), (2, .int (a)), (3, .int (x))]) (pc := 19) C dX11_canReadByGrants_19 (by decide) rfl ?_
  refine v_aload_n (pc := 21) C dX11_canReadByGrants_21 2 rfl rfl ?_
  refine v_get (pc := 22) C (0, 0) (v := .ref (A (7, 0))) ck_0 rfl 4 (by decide) inX11 wd_224 rfl rfl dX11_canReadByGrants_22 ?_
  refine v_callV (pc := 25) C (7, 0) ck_7 rfl (c_X2_replay hG  ) 0 wd_296 wd_64 wd_293 wd_294 wd_295 (by decide +kernel) (by decide) (by decide) rfl ([]) rfl (Nat.le_of_ble_eq_true rfl) (by decide) dX11_canReadByGrants_25 (fun _ _ _ q => q.elim) (fun v9 A9 h9 hR9 => ?_)
  obtain ⟨rfl, hA9, rfl⟩ := hR9
  obtain rfl := hA9.symm
  refine v_st (k2 := 5) (n2 := 30) (st2 := []) rfl rfl rfl ?_
  refine v_aload_n (pc := 28) C dX11_canReadByGrants_28 2 rfl rfl ?_
  refine v_get (pc := 29) C (0, 0) (v := .ref (A (7, 0))) ck_0 rfl 4 (by decide) inX11 wd_224 rfl rfl dX11_canReadByGrants_29 ?_
  refine v_aload (pc := 32) C dX11_canReadByGrants_32 1 rfl ?_
  refine v_get (pc := 34) C (30, (a).toNatClampNeg) (v := .ref (A (27, ((g 50 (a).toNatClampNeg 0)).toNatClampNeg))) (ck_30 (g := (S_X2_replay g)) (vtn (F_X2_replay (by decide)) (ok_needFile x_2))) rfl 1 (by decide) inX4 wd_709 rfl (congrArg (fun (q : Int32) => Value.ref (A (27, q.toNatClampNeg))) (show ((S_X2_replay g) 50 (a).toNatClampNeg 0) = (g 50 (a).toNatClampNeg 0) from F_X2_replay (by decide))) dX11_canReadByGrants_34 ?_
  refine v_get (pc := 37) C (27, ((g 50 (a).toNatClampNeg 0)).toNatClampNeg) (v := .int ((g 48 ((g 50 (a).toNatClampNeg 0)).toNatClampNeg 0))) (ck_27 (g := (S_X2_replay g)) (vtn (F_X2_replay (by decide)) (hI (a).toNatClampNeg (ok_needFile x_2)))) rfl 0 (by decide) inX3 wd_539 rfl (congrArg Value.int (F_X2_replay (by decide))) dX11_canReadByGrants_37 ?_
  refine v_iload_n (pc := 40) C dX11_canReadByGrants_40 3 rfl rfl ?_
  refine v_aload (pc := 41) C dX11_canReadByGrants_41 0 rfl ?_
  refine v_get (pc := 43) C (32, 8 * (a).toNatClampNeg + (x).toNatClampNeg) (v := .int ((g 60 (a).toNatClampNeg (x).toNatClampNeg))) (ck_32 (g := (S_X2_replay g)) (ok_needPart x_3).1 (vtn (F_X2_replay (by decide)) (ok_needPart x_3).2)) rfl 7 (by decide) inX6 wd_793 rfl (congrArg Value.int (F_X2_replay (by decide))) dX11_canReadByGrants_43 ?_
  refine v_callV (pc := 46) C (7, 0) ck_7 rfl (c_X2_isShared hG ((g 48 ((g 50 (a).toNatClampNeg 0)).toNatClampNeg 0)) (u) ((g 60 (a).toNatClampNeg (x).toNatClampNeg)) ) 3 wd_337 wd_64 wd_334 wd_335 wd_336 (by decide +kernel) (by decide) (by decide) rfl ([]) rfl (Nat.le_of_ble_eq_true rfl) (by decide) dX11_canReadByGrants_46 (fun _ _ _ q => q.elim) (fun v9 A9 h9 hR9 => ?_)
  obtain ⟨rfl, hA9, rfl⟩ := hR9
  obtain rfl := hA9.symm
  refine v_st (k2 := 5) (n2 := 30) (st2 := [.int ((V_X2_isShared (S_X2_replay g) ((g 48 ((g 50 (a).toNatClampNeg 0)).toNatClampNeg 0)) (u) ((g 60 (a).toNatClampNeg (x).toNatClampNeg))))]) rfl rfl rfl ?_
  exact v_zret (pc := 49) C (nar_b B_X2_isShared) (by decide) (by decide) dX11_canReadByGrants_49 ⟨(by rw [X_X11_canReadByGrants, if_pos x_1, if_pos x_2, if_pos x_3]), (congrArg (fun q => some (Value.int q)) (by show _ = _; rw [V_X11_canReadByGrants, if_pos x_1, if_pos x_2, if_pos x_3])), rfl, (congrArg (fun q => w q r) (by show _ = _; rw [S_X11_canReadByGrants, if_pos x_1, if_pos x_2, if_pos x_3]))⟩
def X_X11_throwAway (g : vS) (u : Int32) (a : Int32) : Nat := (if (X_X11_needUser g (u)) = 0 then (if (X_X11_needFile g (a)) = 0 then (if u = (g 40 ((g 50 (a).toNatClampNeg 0)).toNatClampNeg 0) then (if (g 53 (a).toNatClampNeg 0) = 0 then (if (V_X5_isFull g) = 0 then 0 else 3) else 3) else 4) else (X_X11_needFile g (a))) else (X_X11_needUser g (u)))
def V_X11_throwAway (g : vS) (u : Int32) (a : Int32) : Int32 := (if (X_X11_needUser g (u)) = 0 then (if (X_X11_needFile g (a)) = 0 then (if u = (g 40 ((g 50 (a).toNatClampNeg 0)).toNatClampNeg 0) then (if (g 53 (a).toNatClampNeg 0) = 0 then (if (V_X5_isFull g) = 0 then (V_X4_partCount (S_X5_append (s3 g 53 (a).toNatClampNeg 0 (1)) (pMix (300) (a))) ((a).toNatClampNeg)) else 0) else 0) else 0) else 0) else 0)
def S_X11_throwAway (g : vS) (u : Int32) (a : Int32) : vS := (if (X_X11_needUser g (u)) = 0 then (if (X_X11_needFile g (a)) = 0 then (if u = (g 40 ((g 50 (a).toNatClampNeg 0)).toNatClampNeg 0) then (if (g 53 (a).toNatClampNeg 0) = 0 then (if (V_X5_isFull g) = 0 then (S_X5_append (s3 g 53 (a).toNatClampNeg 0 (1)) (pMix (300) (a))) else g) else g) else g) else g) else g)
theorem F_X11_throwAway {g : vS} {u : Int32} {a : Int32} {c i j : Nat} (h4 : c ≠ 4) (h53 : c ≠ 53) (h80 : c ≠ 80) : S_X11_throwAway g u a c i j = g c i j := by
  unfold S_X11_throwAway
  (repeat' split) <;> first | rfl | ((simp only [s3_k h4, s3_k h53, s3_k h80, F_X5_append h4 h80]) <;> first | done | rfl)
set_option maxHeartbeats 4000000 in
set_option maxRecDepth 100000 in
theorem c_X11_throwAway {G : vG} (hG : G.1.stackTraces = false) {A : vN → Nat} {g : vS} {r : vH} (u : Int32) (a : Int32) (hI : vI1 g) : vCt G yX11_throwAway cX11_throwAway 4 (some .int) 2 [.ref (A (0, 0)), .int (u), .int (a)] A (w g r) (fun v A2 h2 => X_X11_throwAway g u a = 0 ∧ v = some (.int (V_X11_throwAway g u a)) ∧ A2 = A ∧ h2 = w (S_X11_throwAway g u a) r) (fun cls A2 h2 => X_X11_throwAway g u a ≠ 0 ∧ cls = vEx (X_X11_throwAway g u a) ∧ A2 = A ∧ h2 = w (S_X11_throwAway g u a) r) 3 18 := by
  refine v_of hG (by decide +kernel) (Nat.le_of_ble_eq_true rfl) (lv := [(0, .ref (A (0, 0))), (1, .int (u)), (2, .int (a))]) rfl (fun X C hnx => ?_)
  have C : vC G X cX11_throwAway 4 RX11 (some .int) "throwAway" 2 3 18 := C
  refine v_aload_n (pc := 0) C dX11_throwAway_0 0 rfl rfl ?_
  refine v_iload_n (pc := 1) C dX11_throwAway_1 1 rfl rfl ?_
  refine v_callV (pc := 2) C (0, 0) ck_0 rfl (c_X11_needUser hG (u) ) 1 wd_513 wd_62 wd_510 wd_512 wd_5 (by decide +kernel) (by decide) (by decide) rfl ([]) rfl (Nat.le_of_ble_eq_true rfl) (by decide) dX11_throwAway_2 (fun cls9 A9 h9 hE9 => by obtain ⟨q9, rfl, rfl, rfl⟩ := hE9; exact v_out C hnx ⟨(by rw [show (X_X11_throwAway g u a) = (X_X11_needUser g (u)) from (by rw [X_X11_throwAway, if_neg q9])]; exact q9), (by rw [show (X_X11_throwAway g u a) = (X_X11_needUser g (u)) from (by rw [X_X11_throwAway, if_neg q9])]), rfl, (congrArg (fun q => w q r) (by show _ = _; rw [S_X11_throwAway, if_neg q9]))⟩ (by decide) (by decide)) (fun v9 A9 h9 hR9 => ?_)
  obtain ⟨x_1, rfl, hA9, rfl⟩ := hR9
  obtain rfl := hA9.symm
  refine v_st (k2 := 1) (n2 := 6) (st2 := [.ref (A (22, (u).toNatClampNeg))]) rfl rfl rfl ?_
  refine v_pop (pc := 5) C dX11_throwAway_5 rfl ?_
  refine v_aload_n (pc := 6) C dX11_throwAway_6 0 rfl rfl ?_
  refine v_iload_n (pc := 7) C dX11_throwAway_7 2 rfl rfl ?_
  refine v_callV (pc := 8) C (0, 0) ck_0 rfl (c_X11_needFile hG (a) ) 1 wd_748 wd_62 wd_745 wd_747 wd_13 (by decide +kernel) (by decide) (by decide) rfl ([]) rfl (Nat.le_of_ble_eq_true rfl) (by decide) dX11_throwAway_8 (fun cls9 A9 h9 hE9 => by obtain ⟨q9, rfl, rfl, rfl⟩ := hE9; exact v_out C hnx ⟨(by rw [show (X_X11_throwAway g u a) = (X_X11_needFile g (a)) from (by rw [X_X11_throwAway, if_pos x_1, if_neg q9])]; exact q9), (by rw [show (X_X11_throwAway g u a) = (X_X11_needFile g (a)) from (by rw [X_X11_throwAway, if_pos x_1, if_neg q9])]), rfl, (congrArg (fun q => w q r) (by show _ = _; rw [S_X11_throwAway, if_pos x_1, if_neg q9]))⟩ (by decide) (by decide)) (fun v9 A9 h9 hR9 => ?_)
  obtain ⟨x_2, rfl, hA9, rfl⟩ := hR9
  obtain rfl := hA9.symm
  refine v_st (k2 := 2) (n2 := 12) (st2 := [.ref (A (30, (a).toNatClampNeg))]) rfl rfl rfl ?_
  refine v_astore_n (lv2 := [(3, .ref (A (30, (a).toNatClampNeg))), (0, .ref (A (0, 0))), (1, .int (u)), (2, .int (a))]) (pc := 11) C dX11_throwAway_11 rfl (by decide) rfl ?_
  refine v_iload_n (pc := 12) C dX11_throwAway_12 2 rfl rfl ?_
  refine v_aload_n (pc := 13) C dX11_throwAway_13 0 rfl rfl ?_
  refine v_get (pc := 14) C (30, (a).toNatClampNeg) (v := .ref (A (27, ((g 50 (a).toNatClampNeg 0)).toNatClampNeg))) (ck_30 (g := g) (ok_needFile x_2)) rfl 1 (by decide) inX4 wd_709 rfl rfl dX11_throwAway_14 ?_
  refine v_get (pc := 17) C (27, ((g 50 (a).toNatClampNeg 0)).toNatClampNeg) (v := .int ((g 40 ((g 50 (a).toNatClampNeg 0)).toNatClampNeg 0))) (ck_27 (g := g) (hI (a).toNatClampNeg (ok_needFile x_2))) rfl 1 (by decide) inX3 wd_541 rfl rfl dX11_throwAway_17 ?_
  refine v_icmp_eq (pc := 20) (tgt := 33) C dX11_throwAway_20 (by decide) (fun c_3 => ?_) (fun c_3 => ?_)
  · skip
    refine v_aload_n (pc := 33) C dX11_throwAway_33 0 rfl rfl ?_
    refine v_get (pc := 34) C (30, (a).toNatClampNeg) (v := .int ((g 53 (a).toNatClampNeg 0))) (ck_30 (g := g) (ok_needFile x_2)) rfl 5 (by decide) inX4 wd_715 rfl rfl dX11_throwAway_34 ?_
    refine v_if_ne (pc := 37) (tgt := 50) C dX11_throwAway_37 (by decide) (fun c_4 => ?_) (fun c_4 => ?_)
    · skip
      exact v_throw (pc := 50) C hnx (cls := "java/lang/IllegalStateException") (text := "the file is thrown away, or the log is full") (by decide +kernel) wd_431 wd_73 (by decide +kernel) at_IllegalStateException (by decide) (by decide) (by decide) dX11_throwAway_50 dX11_throwAway_53 dX11_throwAway_54 dX11_throwAway_56 dX11_throwAway_59 ⟨by rw [show (X_X11_throwAway g u a) = 3 from (by rw [X_X11_throwAway, if_pos x_1, if_pos x_2, if_pos c_3, if_neg c_4])]; decide, by rw [show (X_X11_throwAway g u a) = 3 from (by rw [X_X11_throwAway, if_pos x_1, if_pos x_2, if_pos c_3, if_neg c_4])]; rfl, rfl, (congrArg (fun q => w q r) (by show _ = _; rw [S_X11_throwAway, if_pos x_1, if_pos x_2, if_pos c_3, if_neg c_4]))⟩
    · skip
      refine v_aload_n (pc := 40) C dX11_throwAway_40 1 rfl rfl ?_
      refine v_get (pc := 41) C (0, 0) (v := .ref (A (4, 0))) ck_0 rfl 3 (by decide) inX11 wd_223 rfl rfl dX11_throwAway_41 ?_
      refine v_callV (pc := 44) C (4, 0) ck_4 rfl (c_X5_isFull hG  ) 0 wd_602 wd_63 wd_599 wd_600 wd_601 (by decide +kernel) (by decide) (by decide) rfl ([]) rfl (Nat.le_of_ble_eq_true rfl) (by decide) dX11_throwAway_44 (fun _ _ _ q => q.elim) (fun v9 A9 h9 hR9 => ?_)
      obtain ⟨rfl, hA9, rfl⟩ := hR9
      obtain rfl := hA9.symm
      refine v_st (k2 := 2) (n2 := 12) (st2 := [.int ((V_X5_isFull g))]) rfl rfl rfl ?_
      refine v_if_eq (pc := 47) (tgt := 60) C dX11_throwAway_47 (by decide) (fun c_5 => ?_) (fun c_5 => ?_)
      · skip
        refine v_aload_n (pc := 60) C dX11_throwAway_60 0 rfl rfl ?_
        refine v_iconst (v := 1) (pc := 61) C dX11_throwAway_61 rfl ?_
        refine v_put (pc := 62) C (30, (a).toNatClampNeg) (v := .int (1)) (ck_30 (g := g) (ok_needFile x_2)) rfl 5 (by decide) inX4 tyX4 tyX4_ok nmX4 wd_715 rfl (.inl (Value.int (1))) rfl (ty := tyX4 5) (by decide +kernel) rfl rfl (Nat.le_of_ble_eq_true rfl) dX11_throwAway_62 ?_
        refine v_h (h2 := (w (s3 g 53 (a).toNatClampNeg 0 (1)) r)) (u_30_5 (g := g) (ok_needFile x_2)) ?_
        refine v_aload_n (pc := 65) C dX11_throwAway_65 1 rfl rfl ?_
        refine v_get (pc := 66) C (0, 0) (v := .ref (A (4, 0))) ck_0 rfl 3 (by decide) inX11 wd_223 rfl rfl dX11_throwAway_66 ?_
        refine v_sipush (v := 300) (pc := 69) C dX11_throwAway_69 (by decide) ?_
        refine v_iload_n (pc := 72) C dX11_throwAway_72 3 rfl rfl ?_
        refine v_callS (pc := 73) C (c_X0_mix hG (300) (a)) 2 wd_313 wd_78 wd_608 wd_312 (by decide +kernel) (by decide) (by decide) rfl ([.ref (A (4, 0))]) rfl (Nat.le_of_ble_eq_true rfl) (by decide) dX11_throwAway_73 (fun _ _ _ q => q.elim) (fun v9 A9 h9 hR9 => ?_)
        obtain ⟨rfl, hA9, rfl⟩ := hR9
        obtain rfl := hA9.symm
        refine v_st (k2 := 2) (n2 := 12) (st2 := [.int (pMix (300) (a)), .ref (A (4, 0))]) rfl rfl rfl ?_
        refine v_callV (pc := 76) C (4, 0) ck_4 rfl (c_X5_append hG (pMix (300) (a)) ) 1 wd_612 wd_63 wd_609 wd_610 wd_611 (by decide +kernel) (by decide) (by decide) rfl ([]) rfl (Nat.le_of_ble_eq_true rfl) (by decide) dX11_throwAway_76 (fun _ _ _ q => q.elim) (fun v9 A9 h9 hR9 => ?_)
        obtain ⟨rfl, hA9, rfl⟩ := hR9
        obtain rfl := hA9.symm
        refine v_st (k2 := 2) (n2 := 12) (st2 := []) rfl rfl rfl ?_
        refine v_aload_n (pc := 79) C dX11_throwAway_79 0 rfl rfl ?_
        refine v_callV (pc := 80) C (30, (a).toNatClampNeg) (ck_30 (g := (S_X5_append (s3 g 53 (a).toNatClampNeg 0 (1)) (pMix (300) (a)))) (vtn ((F_X5_append (by decide) (by decide)).trans (s3_k (by decide))) (ok_needFile x_2))) rfl (c_X4_partCount hG ((a).toNatClampNeg) (vtn ((F_X5_append (by decide) (by decide)).trans (s3_k (by decide))) (ok_needFile x_2))) 0 wd_268 wd_80 wd_763 wd_266 wd_267 (by decide +kernel) (by decide) (by decide) rfl ([]) rfl (Nat.le_of_ble_eq_true rfl) (by decide) dX11_throwAway_80 (fun _ _ _ q => q.elim) (fun v9 A9 h9 hR9 => ?_)
        obtain ⟨rfl, hA9, rfl⟩ := hR9
        obtain rfl := hA9.symm
        refine v_st (k2 := 2) (n2 := 12) (st2 := [.int ((V_X4_partCount (S_X5_append (s3 g 53 (a).toNatClampNeg 0 (1)) (pMix (300) (a))) ((a).toNatClampNeg)))]) rfl rfl rfl ?_
        exact v_iret (pc := 83) C (by decide) (by decide) dX11_throwAway_83 ⟨(by rw [X_X11_throwAway, if_pos x_1, if_pos x_2, if_pos c_3, if_pos c_4, if_pos c_5]), (congrArg (fun q => some (Value.int q)) (by show _ = _; rw [V_X11_throwAway, if_pos x_1, if_pos x_2, if_pos c_3, if_pos c_4, if_pos c_5])), rfl, (congrArg (fun q => w q r) (by show _ = _; rw [S_X11_throwAway, if_pos x_1, if_pos x_2, if_pos c_3, if_pos c_4, if_pos c_5]))⟩
      · skip
        exact v_throw (pc := 50) C hnx (cls := "java/lang/IllegalStateException") (text := "the file is thrown away, or the log is full") (by decide +kernel) wd_431 wd_73 (by decide +kernel) at_IllegalStateException (by decide) (by decide) (by decide) dX11_throwAway_50 dX11_throwAway_53 dX11_throwAway_54 dX11_throwAway_56 dX11_throwAway_59 ⟨by rw [show (X_X11_throwAway g u a) = 3 from (by rw [X_X11_throwAway, if_pos x_1, if_pos x_2, if_pos c_3, if_pos c_4, if_neg c_5])]; decide, by rw [show (X_X11_throwAway g u a) = 3 from (by rw [X_X11_throwAway, if_pos x_1, if_pos x_2, if_pos c_3, if_pos c_4, if_neg c_5])]; rfl, rfl, (congrArg (fun q => w q r) (by show _ = _; rw [S_X11_throwAway, if_pos x_1, if_pos x_2, if_pos c_3, if_pos c_4, if_neg c_5]))⟩
  · skip
    exact v_throw (pc := 23) C hnx (cls := "java/lang/UnsupportedOperationException") (text := "the user is not the owner") (by decide +kernel) wd_684 wd_79 (by decide +kernel) at_UnsupportedOperationException (by decide) (by decide) (by decide) dX11_throwAway_23 dX11_throwAway_26 dX11_throwAway_27 dX11_throwAway_29 dX11_throwAway_32 ⟨by rw [show (X_X11_throwAway g u a) = 4 from (by rw [X_X11_throwAway, if_pos x_1, if_pos x_2, if_neg c_3])]; decide, by rw [show (X_X11_throwAway g u a) = 4 from (by rw [X_X11_throwAway, if_pos x_1, if_pos x_2, if_neg c_3])]; rfl, rfl, (congrArg (fun q => w q r) (by show _ = _; rw [S_X11_throwAway, if_pos x_1, if_pos x_2, if_neg c_3]))⟩
def VL_X11_purge_4 (g : vS)  : Nat → Nat → Int32 → vS → Int32
  | 0, _, _, _ => 0
  | n + 1, i_4, x_4_1, q_4 => (if (g 2 0 0) ≤ nI i_4 then x_4_1 else (if 20 ≤ nI i_4 then x_4_1 else (if (g 105 i_4 0) = 0 then (VL_X11_purge_4 g n (i_4 + 1) (x_4_1) q_4) else (if (g 53 i_4 0) = 0 then (VL_X11_purge_4 g n (i_4 + 1) (x_4_1) q_4) else (VL_X11_purge_4 g n (i_4 + 1) ((x_4_1 + (V_X4_dropParts q_4 (i_4)))) (S_X4_dropParts q_4 (i_4)))))))
def SL_X11_purge_4 (g : vS)  : Nat → Nat → Int32 → vS → vS
  | 0, _, _, q9 => q9
  | n + 1, i_4, x_4_1, q_4 => (if (g 2 0 0) ≤ nI i_4 then q_4 else (if 20 ≤ nI i_4 then q_4 else (if (g 105 i_4 0) = 0 then (SL_X11_purge_4 g n (i_4 + 1) (x_4_1) q_4) else (if (g 53 i_4 0) = 0 then (SL_X11_purge_4 g n (i_4 + 1) (x_4_1) q_4) else (SL_X11_purge_4 g n (i_4 + 1) ((x_4_1 + (V_X4_dropParts q_4 (i_4)))) (S_X4_dropParts q_4 (i_4)))))))
def V_X11_purge (g : vS)  : Int32 := (VL_X11_purge_4 g (20 + 1) 0 (0) g)
def S_X11_purge (g : vS)  : vS := (SL_X11_purge_4 g (20 + 1) 0 (0) g)
theorem FL_X11_purge_4 {g : vS}  {c i j : Nat} (h106 : c ≠ 106) : ∀ (n : Nat) (a0 : Nat) (a1 : Int32) (a2 : vS), a2 c i j = g c i j → SL_X11_purge_4 g n a0 a1 a2 c i j = g c i j := by
  intro n
  induction n with
  | zero => intro a0 a1 a2 hq9; exact hq9
  | succ n ih =>
    intro a0 a1 a2 hq9
    simp only [SL_X11_purge_4]
    (repeat' split) <;> first | rfl | exact hq9 | (apply ih; first | exact hq9 | rfl | trivial | ((simp only [s3_k h106, F_X4_dropParts h106]) <;> first | done | exact hq9 | rfl)) | ((simp only [s3_k h106, F_X4_dropParts h106]) <;> first | done | exact hq9 | rfl)
theorem F_X11_purge {g : vS}  {c i j : Nat} (h106 : c ≠ 106) : S_X11_purge g c i j = g c i j := by
  unfold S_X11_purge
  (repeat' split) <;> first | rfl | (apply FL_X11_purge_4 h106; first | rfl | trivial | ((simp only [s3_k h106, F_X4_dropParts h106]) <;> first | done | rfl)) | ((simp only [s3_k h106, F_X4_dropParts h106]) <;> first | done | rfl)
set_option maxHeartbeats 4000000 in
set_option maxRecDepth 100000 in
theorem c_X11_purge {G : vG} (hG : G.1.stackTraces = false) {A : vN → Nat} {g : vS} {r : vH}   : vCt G yX11_purge cX11_purge 4 (some .int) 2 [.ref (A (0, 0))] A (w g r) (fun v A2 h2 => v = some (.int (V_X11_purge g)) ∧ A2 = A ∧ h2 = w (S_X11_purge g) r) (vNoX) 0 0 := by
  refine v_of hG (by decide +kernel) (Nat.le_of_ble_eq_true rfl) (lv := [(0, .ref (A (0, 0)))]) rfl (fun X C hnx => ?_)
  have C : vC G X cX11_purge 4 RX11 (some .int) "purge" 2 0 0 := C
  refine v_iconst (v := 0) (pc := 0) C dX11_purge_0 rfl ?_
  refine v_istore_n (lv2 := [(1, .int (0)), (0, .ref (A (0, 0)))]) (pc := 1) C dX11_purge_1 rfl (by decide) rfl ?_
  refine v_iconst (v := 0) (pc := 2) C dX11_purge_2 rfl ?_
  refine v_istore_n (lv2 := [(2, .int (0)), (1, .int (0)), (0, .ref (A (0, 0)))]) (pc := 3) C dX11_purge_3 rfl (by decide) rfl ?_
  have L_4 : ∀ (n : Nat) (i_4 : Nat) (x_4_1 : Int32) (q_4 : vS), i_4 ≤ 20 → 20 + 1 ≤ i_4 + n → (∀ (c i j : Nat), c ≠ 106 → q_4 c i j = g c i j) → (V_X11_purge g) = VL_X11_purge_4 g n i_4 x_4_1 q_4 → (S_X11_purge g) = SL_X11_purge_4 g n i_4 x_4_1 q_4 → V G 4 X A (w q_4 r) 0 0 (vM G X (fun v A2 h2 => v = some (.int (V_X11_purge g)) ∧ A2 = A ∧ h2 = w (S_X11_purge g) r) (vNoX) 0 0) 4 [(2, .int (nI i_4)), (1, .int (x_4_1)), (0, .ref (A (0, 0)))] [] := by
    intro n
    induction n with
    | zero => intro i_4 x_4_1 q_4 hi_4 hc_4 hF_4 eV_4 eS_4; exact absurd hc_4 (by omega)
    | succ n ih =>
      intro i_4 x_4_1 q_4 hi_4 hc_4 hF_4 eV_4 eS_4
      have hq_4 : (nI i_4).toInt = (i_4 : Int) := nI_toInt (by omega)
      have hr_4 : (nI (i_4 + 1)).toInt = ((i_4 + 1 : Nat) : Int) := nI_toInt (by omega)
      refine v_iload_n (pc := 4) C dX11_purge_4 0 rfl rfl ?_
      refine v_aload_n (pc := 5) C dX11_purge_5 2 rfl rfl ?_
      refine v_get (pc := 6) C (0, 0) (v := .int ((g 2 0 0))) ck_0 rfl 10 (by decide) inX11 wd_230 rfl (congrArg Value.int (hF_4 _ _ _ (by decide))) dX11_purge_6 ?_
      refine v_icmp_ge (pc := 9) (tgt := 52) C dX11_purge_9 (by decide) (fun c_1 => ?_) (fun c_1 => ?_)
      · skip
        refine v_iload_n (pc := 52) C dX11_purge_52 1 rfl rfl ?_
        exact v_iret (pc := 53) C (by decide) (by decide) dX11_purge_53 ⟨(congrArg (fun q => some (Value.int q)) (by show _ = _; rw [eV_4, VL_X11_purge_4, if_pos c_1])), rfl, (congrArg (fun q => w q r) (by show _ = _; rw [eS_4, SL_X11_purge_4, if_pos c_1]))⟩
      · skip
        refine v_iload_n (pc := 12) C dX11_purge_12 0 rfl rfl ?_
        refine v_aload_n (pc := 13) C dX11_purge_13 2 rfl rfl ?_
        refine v_get (pc := 14) C (0, 0) (v := .ref (A (3, 0))) ck_0 rfl 2 (by decide) inX11 wd_222 rfl rfl dX11_purge_14 ?_
        refine v_alen (pc := 17) C (3, 0) (v := 20) ck_3 rfl (by decide) dX11_purge_17 ?_
        refine v_icmp_ge (pc := 18) (tgt := 52) C dX11_purge_18 (by decide) (fun c_2 => ?_) (fun c_2 => ?_)
        · skip
          refine v_iload_n (pc := 52) C dX11_purge_52 1 rfl rfl ?_
          exact v_iret (pc := 53) C (by decide) (by decide) dX11_purge_53 ⟨(congrArg (fun q => some (Value.int q)) (by show _ = _; rw [eV_4, VL_X11_purge_4, if_neg c_1, if_pos c_2])), rfl, (congrArg (fun q => w q r) (by show _ = _; rw [eS_4, SL_X11_purge_4, if_neg c_1, if_pos c_2]))⟩
        · skip
          refine v_aload_n (pc := 21) C dX11_purge_21 2 rfl rfl ?_
          refine v_get (pc := 22) C (0, 0) (v := .ref (A (3, 0))) ck_0 rfl 2 (by decide) inX11 wd_222 rfl rfl dX11_purge_22 ?_
          refine v_iload_n (pc := 25) C dX11_purge_25 0 rfl rfl ?_
          rcases Classical.em ((g 105 i_4 0) = 0) with c_3 | c_3
          · skip
            refine v_aaldN (pc := 26) C (3, 0) ck_3 rfl rfl (by (try simp only [Int32.le_iff_toInt_le, Int32.lt_iff_toInt_lt, ← Int32.toInt_inj, vp_in_iff, Int32.reduceToInt] at c_1 c_2 hq_4 hr_4 ⊢) <;> omega) ((congrArg (fun k => if q_4 105 k 0 = 0 then none else some (30, k)) (show (nI i_4 : Int32).toNatClampNeg = i_4 from (nI_clamp (by omega)))).trans ((if_pos ((hF_4 _ _ _ (by decide)).trans c_3) : (fun k => if q_4 105 k 0 = 0 then none else some (30, k)) i_4 = none))) dX11_purge_26 ?_
            refine v_astore_nN (lv2 := [(3, .null), (2, .int (nI i_4)), (1, .int (x_4_1)), (0, .ref (A (0, 0)))]) (pc := 27) C dX11_purge_27 rfl (by decide) rfl ?_
            refine v_aload_nN (pc := 28) C dX11_purge_28 0 rfl rfl ?_
            refine v_ifnullN (tgt := 46) (pc := 29) C dX11_purge_29 (by decide) ?_
            refine v_iinc (v := nI (i_4 + 1)) (lv2 := [(2, .int (nI (i_4 + 1))), (3, .null), (1, .int (x_4_1)), (0, .ref (A (0, 0)))]) (pc := 46) C dX11_purge_46 1 rfl (nI_1 _) (by decide) rfl ?_
            refine v_goto (tgt := 4) (pc := 49) C dX11_purge_49 (by decide) ?_
            refine v_lv (lv2 := [(2, .int (nI (i_4 + 1))), (1, .int (x_4_1)), (0, .ref (A (0, 0)))]) [0, 2, 3] rfl ?_
            exact ih (i_4 + 1) (x_4_1) q_4 (by (try simp only [Int32.le_iff_toInt_le, Int32.lt_iff_toInt_lt, ← Int32.toInt_inj, vp_in_iff, Int32.reduceToInt] at c_1 c_2 c_3 hq_4 hr_4 ⊢) <;> omega) (by omega) (fun c i j h106 => hF_4 c i j h106) (by rw [eV_4, VL_X11_purge_4, if_neg c_1, if_neg c_2, if_pos c_3]) (by rw [eS_4, SL_X11_purge_4, if_neg c_1, if_neg c_2, if_pos c_3])
          · skip
            refine v_aald (pc := 26) C (3, 0) ck_3 rfl rfl (by (try simp only [Int32.le_iff_toInt_le, Int32.lt_iff_toInt_lt, ← Int32.toInt_inj, vp_in_iff, Int32.reduceToInt] at c_1 c_2 hq_4 hr_4 ⊢) <;> omega) (30, i_4) ((congrArg (fun k => if q_4 105 k 0 = 0 then none else some (30, k)) (show (nI i_4 : Int32).toNatClampNeg = i_4 from (nI_clamp (by omega)))).trans ((if_neg (vtn (hF_4 _ _ _ (by decide)) c_3) : (fun k => if q_4 105 k 0 = 0 then none else some (30, k)) i_4 = some (30, i_4)))) dX11_purge_26 ?_
            refine v_astore_n (lv2 := [(3, .ref (A (30, i_4))), (2, .int (nI i_4)), (1, .int (x_4_1)), (0, .ref (A (0, 0)))]) (pc := 27) C dX11_purge_27 rfl (by decide) rfl ?_
            refine v_aload_n (pc := 28) C dX11_purge_28 0 rfl rfl ?_
            refine v_ifnull (pc := 29) C dX11_purge_29 ?_
            refine v_aload_n (pc := 32) C dX11_purge_32 0 rfl rfl ?_
            refine v_get (pc := 33) C (30, i_4) (v := .int ((g 53 i_4 0))) (ck_30 (g := q_4) (vtn (hF_4 _ _ _ (by decide)) c_3)) rfl 5 (by decide) inX4 wd_715 rfl (congrArg Value.int (hF_4 _ _ _ (by decide))) dX11_purge_33 ?_
            refine v_if_eq (pc := 36) (tgt := 46) C dX11_purge_36 (by decide) (fun c_4 => ?_) (fun c_4 => ?_)
            · skip
              refine v_iinc (v := nI (i_4 + 1)) (lv2 := [(2, .int (nI (i_4 + 1))), (3, .ref (A (30, i_4))), (1, .int (x_4_1)), (0, .ref (A (0, 0)))]) (pc := 46) C dX11_purge_46 1 rfl (nI_1 _) (by decide) rfl ?_
              refine v_goto (tgt := 4) (pc := 49) C dX11_purge_49 (by decide) ?_
              refine v_lv (lv2 := [(2, .int (nI (i_4 + 1))), (1, .int (x_4_1)), (0, .ref (A (0, 0)))]) [0, 2, 3] rfl ?_
              exact ih (i_4 + 1) (x_4_1) q_4 (by (try simp only [Int32.le_iff_toInt_le, Int32.lt_iff_toInt_lt, ← Int32.toInt_inj, vp_in_iff, Int32.reduceToInt] at c_1 c_2 c_3 c_4 hq_4 hr_4 ⊢) <;> omega) (by omega) (fun c i j h106 => hF_4 c i j h106) (by rw [eV_4, VL_X11_purge_4, if_neg c_1, if_neg c_2, if_neg c_3, if_pos c_4]) (by rw [eS_4, SL_X11_purge_4, if_neg c_1, if_neg c_2, if_neg c_3, if_pos c_4])
            · skip
              refine v_iload_n (pc := 39) C dX11_purge_39 2 rfl rfl ?_
              refine v_aload_n (pc := 40) C dX11_purge_40 0 rfl rfl ?_
              refine v_callV (pc := 41) C (30, i_4) (ck_30 (g := q_4) (vtn (hF_4 _ _ _ (by decide)) c_3)) rfl (c_X4_dropParts hG (i_4) (vtn (hF_4 _ _ _ (by decide)) c_3)) 0 wd_264 wd_80 wd_261 wd_262 wd_263 (by decide +kernel) (by decide) (by decide) rfl ([.int (x_4_1)]) rfl (Nat.le_of_ble_eq_true rfl) (by decide) dX11_purge_41 (fun _ _ _ q => q.elim) (fun v9 A9 h9 hR9 => ?_)
              obtain ⟨rfl, hA9, rfl⟩ := hR9
              obtain rfl := hA9.symm
              refine v_st (k2 := 0) (n2 := 0) (st2 := [.int ((V_X4_dropParts q_4 (i_4))), .int (x_4_1)]) rfl rfl rfl ?_
              refine v_iadd (pc := 44) C dX11_purge_44 ?_
              refine v_istore_n (lv2 := [(1, .int ((x_4_1 + (V_X4_dropParts q_4 (i_4))))), (3, .ref (A (30, i_4))), (2, .int (nI i_4)), (0, .ref (A (0, 0)))]) (pc := 45) C dX11_purge_45 rfl (by decide) rfl ?_
              refine v_iinc (v := nI (i_4 + 1)) (lv2 := [(2, .int (nI (i_4 + 1))), (1, .int ((x_4_1 + (V_X4_dropParts q_4 (i_4))))), (3, .ref (A (30, i_4))), (0, .ref (A (0, 0)))]) (pc := 46) C dX11_purge_46 2 rfl (nI_1 _) (by decide) rfl ?_
              refine v_goto (tgt := 4) (pc := 49) C dX11_purge_49 (by decide) ?_
              refine v_lv (lv2 := [(2, .int (nI (i_4 + 1))), (1, .int ((x_4_1 + (V_X4_dropParts q_4 (i_4))))), (0, .ref (A (0, 0)))]) [0, 1, 3] rfl ?_
              exact ih (i_4 + 1) ((x_4_1 + (V_X4_dropParts q_4 (i_4)))) (S_X4_dropParts q_4 (i_4)) (by (try simp only [Int32.le_iff_toInt_le, Int32.lt_iff_toInt_lt, ← Int32.toInt_inj, vp_in_iff, Int32.reduceToInt] at c_1 c_2 c_3 c_4 hq_4 hr_4 ⊢) <;> omega) (by omega) (fun c i j h106 => (F_X4_dropParts h106).trans (hF_4 c i j h106)) (by rw [eV_4, VL_X11_purge_4, if_neg c_1, if_neg c_2, if_neg c_3, if_neg c_4]) (by rw [eS_4, SL_X11_purge_4, if_neg c_1, if_neg c_2, if_neg c_3, if_neg c_4])
  exact L_4 (20 + 1) 0 (0) g (by omega) (by omega) (fun c i j h106 => rfl) (by rw [V_X11_purge]) (by rw [S_X11_purge])
def X_X11_tell (g : vS) (u : Int32) (a : Int32) (x : Int32) : Nat := (if (X_X11_needUser g (u)) = 0 then (if (X_X11_needFile g (a)) = 0 then (if (X_X11_needWord g (x)) = 0 then (if (X_X11_needMember g (((g 50 (a).toNatClampNeg 0)).toNatClampNeg) (u)) = 0 then (if (V_X10_keeps g ((V_X3_tokenOf g (((g 50 (a).toNatClampNeg 0)).toNatClampNeg) ((g 42 ((g 50 (a).toNatClampNeg 0)).toNatClampNeg 0)) (x))) (a)) = 0 then (if (V_X10_isFull g) = 0 then 0 else 3) else 0) else (X_X11_needMember g (((g 50 (a).toNatClampNeg 0)).toNatClampNeg) (u))) else (X_X11_needWord g (x))) else (X_X11_needFile g (a))) else (X_X11_needUser g (u)))
def V_X11_tell (g : vS) (u : Int32) (a : Int32) (x : Int32) : Int32 := (if (X_X11_needUser g (u)) = 0 then (if (X_X11_needFile g (a)) = 0 then (if (X_X11_needWord g (x)) = 0 then (if (X_X11_needMember g (((g 50 (a).toNatClampNeg 0)).toNatClampNeg) (u)) = 0 then (if (V_X10_keeps g ((V_X3_tokenOf g (((g 50 (a).toNatClampNeg 0)).toNatClampNeg) ((g 42 ((g 50 (a).toNatClampNeg 0)).toNatClampNeg 0)) (x))) (a)) = 0 then (if (V_X10_isFull g) = 0 then (V_X10_keptCount (S_X10_keep g ((V_X3_tokenOf g (((g 50 (a).toNatClampNeg 0)).toNatClampNeg) ((g 42 ((g 50 (a).toNatClampNeg 0)).toNatClampNeg 0)) (x))) (a))) else 0) else (V_X10_keptCount g)) else 0) else 0) else 0) else 0)
def S_X11_tell (g : vS) (u : Int32) (a : Int32) (x : Int32) : vS := (if (X_X11_needUser g (u)) = 0 then (if (X_X11_needFile g (a)) = 0 then (if (X_X11_needWord g (x)) = 0 then (if (X_X11_needMember g (((g 50 (a).toNatClampNeg 0)).toNatClampNeg) (u)) = 0 then (if (V_X10_keeps g ((V_X3_tokenOf g (((g 50 (a).toNatClampNeg 0)).toNatClampNeg) ((g 42 ((g 50 (a).toNatClampNeg 0)).toNatClampNeg 0)) (x))) (a)) = 0 then (if (V_X10_isFull g) = 0 then (S_X10_keep g ((V_X3_tokenOf g (((g 50 (a).toNatClampNeg 0)).toNatClampNeg) ((g 42 ((g 50 (a).toNatClampNeg 0)).toNatClampNeg 0)) (x))) (a)) else g) else g) else g) else g) else g) else g)
theorem F_X11_tell {g : vS} {u : Int32} {a : Int32} {x : Int32} {c i j : Nat} (h3 : c ≠ 3) (h70 : c ≠ 70) (h71 : c ≠ 71) : S_X11_tell g u a x c i j = g c i j := by
  unfold S_X11_tell
  (repeat' split) <;> first | rfl | ((simp only [s3_k h3, s3_k h70, s3_k h71, F_X10_keep h3 h70 h71]) <;> first | done | rfl)
set_option maxHeartbeats 4000000 in
set_option maxRecDepth 100000 in
theorem c_X11_tell {G : vG} (hG : G.1.stackTraces = false) {A : vN → Nat} {g : vS} {r : vH} (u : Int32) (a : Int32) (x : Int32) (hI : vI1 g) : vCt G yX11_tell cX11_tell 6 (some .int) 3 [.ref (A (0, 0)), .int (u), .int (a), .int (x)] A (w g r) (fun v A2 h2 => X_X11_tell g u a x = 0 ∧ v = some (.int (V_X11_tell g u a x)) ∧ A2 = A ∧ h2 = w (S_X11_tell g u a x) r) (fun cls A2 h2 => X_X11_tell g u a x ≠ 0 ∧ cls = vEx (X_X11_tell g u a x) ∧ A2 = A ∧ h2 = w (S_X11_tell g u a x) r) 5 30 := by
  refine v_of hG (by decide +kernel) (Nat.le_of_ble_eq_true rfl) (lv := [(0, .ref (A (0, 0))), (1, .int (u)), (2, .int (a)), (3, .int (x))]) rfl (fun X C hnx => ?_)
  have C : vC G X cX11_tell 6 RX11 (some .int) "tell" 3 5 30 := C
  refine v_aload_n (pc := 0) C dX11_tell_0 0 rfl rfl ?_
  refine v_iload_n (pc := 1) C dX11_tell_1 1 rfl rfl ?_
  refine v_callV (pc := 2) C (0, 0) ck_0 rfl (c_X11_needUser hG (u) ) 1 wd_513 wd_62 wd_510 wd_512 wd_5 (by decide +kernel) (by decide) (by decide) rfl ([]) rfl (Nat.le_of_ble_eq_true rfl) (by decide) dX11_tell_2 (fun cls9 A9 h9 hE9 => by obtain ⟨q9, rfl, rfl, rfl⟩ := hE9; exact v_out C hnx ⟨(by rw [show (X_X11_tell g u a x) = (X_X11_needUser g (u)) from (by rw [X_X11_tell, if_neg q9])]; exact q9), (by rw [show (X_X11_tell g u a x) = (X_X11_needUser g (u)) from (by rw [X_X11_tell, if_neg q9])]), rfl, (congrArg (fun q => w q r) (by show _ = _; rw [S_X11_tell, if_neg q9]))⟩ (by decide) (by decide)) (fun v9 A9 h9 hR9 => ?_)
  obtain ⟨x_1, rfl, hA9, rfl⟩ := hR9
  obtain rfl := hA9.symm
  refine v_st (k2 := 1) (n2 := 6) (st2 := [.ref (A (22, (u).toNatClampNeg))]) rfl rfl rfl ?_
  refine v_pop (pc := 5) C dX11_tell_5 rfl ?_
  refine v_aload_n (pc := 6) C dX11_tell_6 0 rfl rfl ?_
  refine v_iload_n (pc := 7) C dX11_tell_7 2 rfl rfl ?_
  refine v_callV (pc := 8) C (0, 0) ck_0 rfl (c_X11_needFile hG (a) ) 1 wd_748 wd_62 wd_745 wd_747 wd_13 (by decide +kernel) (by decide) (by decide) rfl ([]) rfl (Nat.le_of_ble_eq_true rfl) (by decide) dX11_tell_8 (fun cls9 A9 h9 hE9 => by obtain ⟨q9, rfl, rfl, rfl⟩ := hE9; exact v_out C hnx ⟨(by rw [show (X_X11_tell g u a x) = (X_X11_needFile g (a)) from (by rw [X_X11_tell, if_pos x_1, if_neg q9])]; exact q9), (by rw [show (X_X11_tell g u a x) = (X_X11_needFile g (a)) from (by rw [X_X11_tell, if_pos x_1, if_neg q9])]), rfl, (congrArg (fun q => w q r) (by show _ = _; rw [S_X11_tell, if_pos x_1, if_neg q9]))⟩ (by decide) (by decide)) (fun v9 A9 h9 hR9 => ?_)
  obtain ⟨x_2, rfl, hA9, rfl⟩ := hR9
  obtain rfl := hA9.symm
  refine v_st (k2 := 2) (n2 := 12) (st2 := [.ref (A (30, (a).toNatClampNeg))]) rfl rfl rfl ?_
  refine v_astore (lv2 := [(4, .ref (A (30, (a).toNatClampNeg))), (0, .ref (A (0, 0))), (1, .int (u)), (2, .int (a)), (3, .int (x))]) (pc := 11) C dX11_tell_11 (by decide) rfl ?_
  refine v_aload_n (pc := 13) C dX11_tell_13 1 rfl rfl ?_
  refine v_iload_n (pc := 14) C dX11_tell_14 4 rfl rfl ?_
  refine v_callV (pc := 15) C (0, 0) ck_0 rfl (c_X11_needWord hG (x) ) 1 wd_912 wd_62 wd_909 wd_911 wd_19 (by decide +kernel) (by decide) (by decide) rfl ([]) rfl (Nat.le_of_ble_eq_true rfl) (by decide) dX11_tell_15 (fun cls9 A9 h9 hE9 => by obtain ⟨q9, rfl, rfl, rfl⟩ := hE9; exact v_out C hnx ⟨(by rw [show (X_X11_tell g u a x) = (X_X11_needWord g (x)) from (by rw [X_X11_tell, if_pos x_1, if_pos x_2, if_neg q9])]; exact q9), (by rw [show (X_X11_tell g u a x) = (X_X11_needWord g (x)) from (by rw [X_X11_tell, if_pos x_1, if_pos x_2, if_neg q9])]), rfl, (congrArg (fun q => w q r) (by show _ = _; rw [S_X11_tell, if_pos x_1, if_pos x_2, if_neg q9]))⟩ (by decide) (by decide)) (fun v9 A9 h9 hR9 => ?_)
  obtain ⟨x_3, rfl, hA9, rfl⟩ := hR9
  obtain rfl := hA9.symm
  refine v_st (k2 := 3) (n2 := 18) (st2 := []) rfl rfl rfl ?_
  refine v_aload_n (pc := 18) C dX11_tell_18 1 rfl rfl ?_
  refine v_aload (pc := 19) C dX11_tell_19 0 rfl ?_
  refine v_get (pc := 21) C (30, (a).toNatClampNeg) (v := .ref (A (27, ((g 50 (a).toNatClampNeg 0)).toNatClampNeg))) (ck_30 (g := g) (ok_needFile x_2)) rfl 1 (by decide) inX4 wd_709 rfl rfl dX11_tell_21 ?_
  refine v_iload_n (pc := 24) C dX11_tell_24 2 rfl rfl ?_
  refine v_callV (pc := 25) C (0, 0) ck_0 rfl (c_X11_needMember hG (((g 50 (a).toNatClampNeg 0)).toNatClampNeg) (u) (hI (a).toNatClampNeg (ok_needFile x_2))) 2 wd_683 wd_62 wd_680 wd_682 wd_12 (by decide +kernel) (by decide) (by decide) rfl ([]) rfl (Nat.le_of_ble_eq_true rfl) (by decide) dX11_tell_25 (fun cls9 A9 h9 hE9 => by obtain ⟨q9, rfl, rfl, rfl⟩ := hE9; exact v_out C hnx ⟨(by rw [show (X_X11_tell g u a x) = (X_X11_needMember g (((g 50 (a).toNatClampNeg 0)).toNatClampNeg) (u)) from (by rw [X_X11_tell, if_pos x_1, if_pos x_2, if_pos x_3, if_neg q9])]; exact q9), (by rw [show (X_X11_tell g u a x) = (X_X11_needMember g (((g 50 (a).toNatClampNeg 0)).toNatClampNeg) (u)) from (by rw [X_X11_tell, if_pos x_1, if_pos x_2, if_pos x_3, if_neg q9])]), rfl, (congrArg (fun q => w q r) (by show _ = _; rw [S_X11_tell, if_pos x_1, if_pos x_2, if_pos x_3, if_neg q9]))⟩ (by decide) (by decide)) (fun v9 A9 h9 hR9 => ?_)
  obtain ⟨x_4, rfl, hA9, rfl⟩ := hR9
  obtain rfl := hA9.symm
  refine v_st (k2 := 4) (n2 := 24) (st2 := []) rfl rfl rfl ?_
  refine v_aload (pc := 28) C dX11_tell_28 0 rfl ?_
  refine v_get (pc := 30) C (30, (a).toNatClampNeg) (v := .ref (A (27, ((g 50 (a).toNatClampNeg 0)).toNatClampNeg))) (ck_30 (g := g) (ok_needFile x_2)) rfl 1 (by decide) inX4 wd_709 rfl rfl dX11_tell_30 ?_
  refine v_aload (pc := 33) C dX11_tell_33 0 rfl ?_
  refine v_get (pc := 35) C (30, (a).toNatClampNeg) (v := .ref (A (27, ((g 50 (a).toNatClampNeg 0)).toNatClampNeg))) (ck_30 (g := g) (ok_needFile x_2)) rfl 1 (by decide) inX4 wd_709 rfl rfl dX11_tell_35 ?_
  refine v_get (pc := 38) C (27, ((g 50 (a).toNatClampNeg 0)).toNatClampNeg) (v := .int ((g 42 ((g 50 (a).toNatClampNeg 0)).toNatClampNeg 0))) (ck_27 (g := g) (hI (a).toNatClampNeg (ok_needFile x_2))) rfl 4 (by decide) inX3 wd_547 rfl rfl dX11_tell_38 ?_
  refine v_iload_n (pc := 41) C dX11_tell_41 4 rfl rfl ?_
  refine v_callV (pc := 42) C (27, ((g 50 (a).toNatClampNeg 0)).toNatClampNeg) (ck_27 (g := g) (hI (a).toNatClampNeg (ok_needFile x_2))) rfl (c_X3_tokenOf hG (((g 50 (a).toNatClampNeg 0)).toNatClampNeg) ((g 42 ((g 50 (a).toNatClampNeg 0)).toNatClampNeg 0)) (x) (hI (a).toNatClampNeg (ok_needFile x_2))) 2 wd_917 wd_77 wd_914 wd_915 wd_916 (by decide +kernel) (by decide) (by decide) rfl ([]) rfl (Nat.le_of_ble_eq_true rfl) (by decide) dX11_tell_42 (fun _ _ _ q => q.elim) (fun v9 A9 h9 hR9 => ?_)
  obtain ⟨rfl, hA9, rfl⟩ := hR9
  obtain rfl := hA9.symm
  refine v_st (k2 := 4) (n2 := 24) (st2 := [.int ((V_X3_tokenOf g (((g 50 (a).toNatClampNeg 0)).toNatClampNeg) ((g 42 ((g 50 (a).toNatClampNeg 0)).toNatClampNeg 0)) (x)))]) rfl rfl rfl ?_
  refine v_istore (lv2 := [(5, .int ((V_X3_tokenOf g (((g 50 (a).toNatClampNeg 0)).toNatClampNeg) ((g 42 ((g 50 (a).toNatClampNeg 0)).toNatClampNeg 0)) (x)))), (4, .ref (A (30, (a).toNatClampNeg))), (0, .ref (A (0, 0))), (1, .int (u)), (2, .int (a)), (3, .int (x))]) (pc := 45) C dX11_tell_45 (by decide) rfl ?_
  refine v_aload_n (pc := 47) C dX11_tell_47 2 rfl rfl ?_
  refine v_get (pc := 48) C (0, 0) (v := .ref (A (11, 0))) ck_0 rfl 5 (by decide) inX11 wd_225 rfl rfl dX11_tell_48 ?_
  refine v_iload (pc := 51) C dX11_tell_51 0 rfl ?_
  refine v_iload_n (pc := 53) C dX11_tell_53 4 rfl rfl ?_
  refine v_callV (pc := 54) C (11, 0) ck_11 rfl (c_X10_keeps hG ((V_X3_tokenOf g (((g 50 (a).toNatClampNeg 0)).toNatClampNeg) ((g 42 ((g 50 (a).toNatClampNeg 0)).toNatClampNeg 0)) (x))) (a) ) 2 wd_921 wd_65 wd_918 wd_919 wd_920 (by decide +kernel) (by decide) (by decide) rfl ([]) rfl (Nat.le_of_ble_eq_true rfl) (by decide) dX11_tell_54 (fun _ _ _ q => q.elim) (fun v9 A9 h9 hR9 => ?_)
  obtain ⟨rfl, hA9, rfl⟩ := hR9
  obtain rfl := hA9.symm
  refine v_st (k2 := 4) (n2 := 24) (st2 := [.int ((V_X10_keeps g ((V_X3_tokenOf g (((g 50 (a).toNatClampNeg 0)).toNatClampNeg) ((g 42 ((g 50 (a).toNatClampNeg 0)).toNatClampNeg 0)) (x))) (a)))]) rfl rfl rfl ?_
  refine v_if_ne (pc := 57) (tgt := 91) C dX11_tell_57 (by decide) (fun c_5 => ?_) (fun c_5 => ?_)
  · skip
    refine v_aload_n (pc := 91) C dX11_tell_91 2 rfl rfl ?_
    refine v_get (pc := 92) C (0, 0) (v := .ref (A (11, 0))) ck_0 rfl 5 (by decide) inX11 wd_225 rfl rfl dX11_tell_92 ?_
    refine v_callV (pc := 95) C (11, 0) ck_11 rfl (c_X10_keptCount hG  ) 0 wd_934 wd_65 wd_931 wd_932 wd_933 (by decide +kernel) (by decide) (by decide) rfl ([]) rfl (Nat.le_of_ble_eq_true rfl) (by decide) dX11_tell_95 (fun _ _ _ q => q.elim) (fun v9 A9 h9 hR9 => ?_)
    obtain ⟨rfl, hA9, rfl⟩ := hR9
    obtain rfl := hA9.symm
    refine v_st (k2 := 4) (n2 := 24) (st2 := [.int ((V_X10_keptCount g))]) rfl rfl rfl ?_
    exact v_iret (pc := 98) C (by decide) (by decide) dX11_tell_98 ⟨(by rw [X_X11_tell, if_pos x_1, if_pos x_2, if_pos x_3, if_pos x_4, if_neg c_5]), (congrArg (fun q => some (Value.int q)) (by show _ = _; rw [V_X11_tell, if_pos x_1, if_pos x_2, if_pos x_3, if_pos x_4, if_neg c_5])), rfl, (congrArg (fun q => w q r) (by show _ = _; rw [S_X11_tell, if_pos x_1, if_pos x_2, if_pos x_3, if_pos x_4, if_neg c_5]))⟩
  · skip
    refine v_aload_n (pc := 60) C dX11_tell_60 2 rfl rfl ?_
    refine v_get (pc := 61) C (0, 0) (v := .ref (A (11, 0))) ck_0 rfl 5 (by decide) inX11 wd_225 rfl rfl dX11_tell_61 ?_
    refine v_callV (pc := 64) C (11, 0) ck_11 rfl (c_X10_isFull hG  ) 0 wd_925 wd_65 wd_922 wd_923 wd_924 (by decide +kernel) (by decide) (by decide) rfl ([]) rfl (Nat.le_of_ble_eq_true rfl) (by decide) dX11_tell_64 (fun _ _ _ q => q.elim) (fun v9 A9 h9 hR9 => ?_)
    obtain ⟨rfl, hA9, rfl⟩ := hR9
    obtain rfl := hA9.symm
    refine v_st (k2 := 4) (n2 := 24) (st2 := [.int ((V_X10_isFull g))]) rfl rfl rfl ?_
    refine v_if_eq (pc := 67) (tgt := 81) C dX11_tell_67 (by decide) (fun c_6 => ?_) (fun c_6 => ?_)
    · skip
      refine v_aload_n (pc := 81) C dX11_tell_81 2 rfl rfl ?_
      refine v_get (pc := 82) C (0, 0) (v := .ref (A (11, 0))) ck_0 rfl 5 (by decide) inX11 wd_225 rfl rfl dX11_tell_82 ?_
      refine v_iload (pc := 85) C dX11_tell_85 0 rfl ?_
      refine v_iload_n (pc := 87) C dX11_tell_87 4 rfl rfl ?_
      refine v_callV (pc := 88) C (11, 0) ck_11 rfl (c_X10_keep hG ((V_X3_tokenOf g (((g 50 (a).toNatClampNeg 0)).toNatClampNeg) ((g 42 ((g 50 (a).toNatClampNeg 0)).toNatClampNeg 0)) (x))) (a) ) 2 wd_930 wd_65 wd_927 wd_928 wd_929 (by decide +kernel) (by decide) (by decide) rfl ([]) rfl (Nat.le_of_ble_eq_true rfl) (by decide) dX11_tell_88 (fun _ _ _ q => q.elim) (fun v9 A9 h9 hR9 => ?_)
      obtain ⟨rfl, hA9, rfl⟩ := hR9
      obtain rfl := hA9.symm
      refine v_st (k2 := 4) (n2 := 24) (st2 := []) rfl rfl rfl ?_
      refine v_aload_n (pc := 91) C dX11_tell_91 2 rfl rfl ?_
      refine v_get (pc := 92) C (0, 0) (v := .ref (A (11, 0))) ck_0 rfl 5 (by decide) inX11 wd_225 rfl rfl dX11_tell_92 ?_
      refine v_callV (pc := 95) C (11, 0) ck_11 rfl (c_X10_keptCount hG  ) 0 wd_934 wd_65 wd_931 wd_932 wd_933 (by decide +kernel) (by decide) (by decide) rfl ([]) rfl (Nat.le_of_ble_eq_true rfl) (by decide) dX11_tell_95 (fun _ _ _ q => q.elim) (fun v9 A9 h9 hR9 => ?_)
      obtain ⟨rfl, hA9, rfl⟩ := hR9
      obtain rfl := hA9.symm
      refine v_st (k2 := 4) (n2 := 24) (st2 := [.int ((V_X10_keptCount (S_X10_keep g ((V_X3_tokenOf g (((g 50 (a).toNatClampNeg 0)).toNatClampNeg) ((g 42 ((g 50 (a).toNatClampNeg 0)).toNatClampNeg 0)) (x))) (a))))]) rfl rfl rfl ?_
      exact v_iret (pc := 98) C (by decide) (by decide) dX11_tell_98 ⟨(by rw [X_X11_tell, if_pos x_1, if_pos x_2, if_pos x_3, if_pos x_4, if_pos c_5, if_pos c_6]), (congrArg (fun q => some (Value.int q)) (by show _ = _; rw [V_X11_tell, if_pos x_1, if_pos x_2, if_pos x_3, if_pos x_4, if_pos c_5, if_pos c_6])), rfl, (congrArg (fun q => w q r) (by show _ = _; rw [S_X11_tell, if_pos x_1, if_pos x_2, if_pos x_3, if_pos x_4, if_pos c_5, if_pos c_6]))⟩
    · skip
      exact v_throwW (pc := 70) C hnx (cls := "java/lang/IllegalStateException") (text := "60 tokens are kept") (by decide +kernel) wd_431 wd_73 (by decide +kernel) at_IllegalStateException (by decide) (by decide) (by decide) dX11_tell_70 dX11_tell_73 dX11_tell_74 dX11_tell_77 dX11_tell_80 ⟨by rw [show (X_X11_tell g u a x) = 3 from (by rw [X_X11_tell, if_pos x_1, if_pos x_2, if_pos x_3, if_pos x_4, if_pos c_5, if_neg c_6])]; decide, by rw [show (X_X11_tell g u a x) = 3 from (by rw [X_X11_tell, if_pos x_1, if_pos x_2, if_pos x_3, if_pos x_4, if_pos c_5, if_neg c_6])]; rfl, rfl, (congrArg (fun q => w q r) (by show _ = _; rw [S_X11_tell, if_pos x_1, if_pos x_2, if_pos x_3, if_pos x_4, if_pos c_5, if_neg c_6]))⟩
def X_X11_foundAt (g : vS) (x : Int32) : Nat := (if x < 0 then 5 else (if x < (V_X10_foundCount g) then 0 else 5))
def V_X11_foundAt (g : vS) (x : Int32) : Int32 := (if x < 0 then 0 else (if x < (V_X10_foundCount g) then (V_X10_foundFile g (x)) else 0))
set_option maxHeartbeats 4000000 in
set_option maxRecDepth 100000 in
theorem c_X11_foundAt {G : vG} (hG : G.1.stackTraces = false) {A : vN → Nat} {g : vS} {r : vH} (x : Int32)  : vCt G yX11_foundAt cX11_foundAt 2 (some .int) 1 [.ref (A (0, 0)), .int (x)] A (w g r) (fun v A2 h2 => X_X11_foundAt g x = 0 ∧ v = some (.int (V_X11_foundAt g x)) ∧ A2 = A ∧ h2 = w g r) (fun cls A2 h2 => X_X11_foundAt g x ≠ 0 ∧ cls = vEx (X_X11_foundAt g x) ∧ A2 = A ∧ h2 = w g r) 1 6 := by
  refine v_of hG (by decide +kernel) (Nat.le_of_ble_eq_true rfl) (lv := [(0, .ref (A (0, 0))), (1, .int (x))]) rfl (fun X C hnx => ?_)
  have C : vC G X cX11_foundAt 2 RX11 (some .int) "foundAt" 1 1 6 := C
  refine v_iload_n (pc := 0) C dX11_foundAt_0 1 rfl rfl ?_
  refine v_if_lt (pc := 1) (tgt := 15) C dX11_foundAt_1 (by decide) (fun c_1 => ?_) (fun c_1 => ?_)
  · skip
    exact v_throwW (pc := 15) C hnx (cls := "java/lang/IndexOutOfBoundsException") (text := "there is no such file") (by decide +kernel) wd_1003 wd_82 (by decide +kernel) at_IndexOutOfBoundsException (by decide) (by decide) (by decide) dX11_foundAt_15 dX11_foundAt_18 dX11_foundAt_19 dX11_foundAt_22 dX11_foundAt_25 ⟨by rw [show (X_X11_foundAt g x) = 5 from (by rw [X_X11_foundAt, if_pos c_1])]; decide, by rw [show (X_X11_foundAt g x) = 5 from (by rw [X_X11_foundAt, if_pos c_1])]; rfl, rfl, rfl⟩
  · skip
    refine v_iload_n (pc := 4) C dX11_foundAt_4 1 rfl rfl ?_
    refine v_aload_n (pc := 5) C dX11_foundAt_5 0 rfl rfl ?_
    refine v_get (pc := 6) C (0, 0) (v := .ref (A (11, 0))) ck_0 rfl 5 (by decide) inX11 wd_225 rfl rfl dX11_foundAt_6 ?_
    refine v_callV (pc := 9) C (11, 0) ck_11 rfl (c_X10_foundCount hG  ) 0 wd_1002 wd_65 wd_999 wd_1000 wd_1001 (by decide +kernel) (by decide) (by decide) rfl ([.int (x)]) rfl (Nat.le_of_ble_eq_true rfl) (by decide) dX11_foundAt_9 (fun _ _ _ q => q.elim) (fun v9 A9 h9 hR9 => ?_)
    obtain ⟨rfl, hA9, rfl⟩ := hR9
    obtain rfl := hA9.symm
    refine v_st (k2 := 0) (n2 := 0) (st2 := [.int ((V_X10_foundCount g)), .int (x)]) rfl rfl rfl ?_
    refine v_icmp_lt (pc := 12) (tgt := 26) C dX11_foundAt_12 (by decide) (fun c_2 => ?_) (fun c_2 => ?_)
    · skip
      refine v_aload_n (pc := 26) C dX11_foundAt_26 0 rfl rfl ?_
      refine v_get (pc := 27) C (0, 0) (v := .ref (A (11, 0))) ck_0 rfl 5 (by decide) inX11 wd_225 rfl rfl dX11_foundAt_27 ?_
      refine v_iload_n (pc := 30) C dX11_foundAt_30 1 rfl rfl ?_
      refine v_callV (pc := 31) C (11, 0) ck_11 rfl (c_X10_foundFile hG (x) ) 1 wd_1018 wd_65 wd_1015 wd_1016 wd_1017 (by decide +kernel) (by decide) (by decide) rfl ([]) rfl (Nat.le_of_ble_eq_true rfl) (by decide) dX11_foundAt_31 (fun _ _ _ q => q.elim) (fun v9 A9 h9 hR9 => ?_)
      obtain ⟨rfl, hA9, rfl⟩ := hR9
      obtain rfl := hA9.symm
      refine v_st (k2 := 0) (n2 := 0) (st2 := [.int ((V_X10_foundFile g (x)))]) rfl rfl rfl ?_
      exact v_iret (pc := 34) C (by decide) (by decide) dX11_foundAt_34 ⟨(by rw [X_X11_foundAt, if_neg c_1, if_pos c_2]), (congrArg (fun q => some (Value.int q)) (by show _ = _; rw [V_X11_foundAt, if_neg c_1, if_pos c_2])), rfl, rfl⟩
    · skip
      exact v_throwW (pc := 15) C hnx (cls := "java/lang/IndexOutOfBoundsException") (text := "there is no such file") (by decide +kernel) wd_1003 wd_82 (by decide +kernel) at_IndexOutOfBoundsException (by decide) (by decide) (by decide) dX11_foundAt_15 dX11_foundAt_18 dX11_foundAt_19 dX11_foundAt_22 dX11_foundAt_25 ⟨by rw [show (X_X11_foundAt g x) = 5 from (by rw [X_X11_foundAt, if_neg c_1, if_neg c_2])]; decide, by rw [show (X_X11_foundAt g x) = 5 from (by rw [X_X11_foundAt, if_neg c_1, if_neg c_2])]; rfl, rfl, rfl⟩
def X_X11_shown (g : vS) (x : Int32) : Nat := (if x = 110 then 0 else (if x = 114 then 0 else (if x = 102 then 0 else 2)))
def V_X11_shown (g : vS) (x : Int32) : Int32 := (if x = 110 then (g 6 0 0) else (if x = 114 then (g 7 0 0) else (if x = 102 then (g 8 0 0) else 0)))
set_option maxHeartbeats 4000000 in
set_option maxRecDepth 100000 in
theorem c_X11_shown {G : vG} (hG : G.1.stackTraces = false) {A : vN → Nat} {g : vS} {r : vH} (x : Int32)  : vCt G yX11_shown cX11_shown 2 (some .int) 0 [.ref (A (0, 0)), .int (x)] A (w g r) (fun v A2 h2 => X_X11_shown g x = 0 ∧ v = some (.int (V_X11_shown g x)) ∧ A2 = A ∧ h2 = w g r) (fun cls A2 h2 => X_X11_shown g x ≠ 0 ∧ cls = vEx (X_X11_shown g x) ∧ A2 = A ∧ h2 = w g r) 1 6 := by
  refine v_of hG (by decide +kernel) (Nat.le_of_ble_eq_true rfl) (lv := [(0, .ref (A (0, 0))), (1, .int (x))]) rfl (fun X C hnx => ?_)
  have C : vC G X cX11_shown 2 RX11 (some .int) "shown" 0 1 6 := C
  refine v_iload_n (pc := 0) C dX11_shown_0 1 rfl rfl ?_
  refine v_bipush (v := 110) (pc := 1) C dX11_shown_1 (by decide) ?_
  refine v_icmp_ne (pc := 3) (tgt := 14) C dX11_shown_3 (by decide) (fun c_1 => ?_) (fun c_1 => ?_)
  · skip
    refine v_iload_n (pc := 14) C dX11_shown_14 1 rfl rfl ?_
    refine v_bipush (v := 114) (pc := 15) C dX11_shown_15 (by decide) ?_
    refine v_icmp_ne (pc := 17) (tgt := 28) C dX11_shown_17 (by decide) (fun c_2 => ?_) (fun c_2 => ?_)
    · skip
      refine v_iload_n (pc := 28) C dX11_shown_28 1 rfl rfl ?_
      refine v_bipush (v := 102) (pc := 29) C dX11_shown_29 (by decide) ?_
      refine v_icmp_ne (pc := 31) (tgt := 42) C dX11_shown_31 (by decide) (fun c_3 => ?_) (fun c_3 => ?_)
      · skip
        exact v_throwW (pc := 42) C hnx (cls := "java/lang/IllegalArgumentException") (text := "there is no such letter") (by decide +kernel) wd_359 wd_72 (by decide +kernel) at_IllegalArgumentException (by decide) (by decide) (by decide) dX11_shown_42 dX11_shown_45 dX11_shown_46 dX11_shown_49 dX11_shown_52 ⟨by rw [show (X_X11_shown g x) = 2 from (by rw [X_X11_shown, if_neg c_1, if_neg c_2, if_neg c_3])]; decide, by rw [show (X_X11_shown g x) = 2 from (by rw [X_X11_shown, if_neg c_1, if_neg c_2, if_neg c_3])]; rfl, rfl, rfl⟩
      · skip
        refine v_aload_n (pc := 34) C dX11_shown_34 0 rfl rfl ?_
        refine v_get (pc := 35) C (0, 0) (v := .ref (A (11, 0))) ck_0 rfl 5 (by decide) inX11 wd_225 rfl rfl dX11_shown_35 ?_
        refine v_get (pc := 38) C (11, 0) (v := .int ((g 8 0 0))) ck_11 rfl 2 (by decide) inX10 wd_171 rfl rfl dX11_shown_38 ?_
        exact v_iret (pc := 41) C (by decide) (by decide) dX11_shown_41 ⟨(by rw [X_X11_shown, if_neg c_1, if_neg c_2, if_pos c_3]), (congrArg (fun q => some (Value.int q)) (by show _ = _; rw [V_X11_shown, if_neg c_1, if_neg c_2, if_pos c_3])), rfl, rfl⟩
    · skip
      refine v_aload_n (pc := 20) C dX11_shown_20 0 rfl rfl ?_
      refine v_get (pc := 21) C (0, 0) (v := .ref (A (11, 0))) ck_0 rfl 5 (by decide) inX11 wd_225 rfl rfl dX11_shown_21 ?_
      refine v_get (pc := 24) C (11, 0) (v := .int ((g 7 0 0))) ck_11 rfl 1 (by decide) inX10 wd_169 rfl rfl dX11_shown_24 ?_
      exact v_iret (pc := 27) C (by decide) (by decide) dX11_shown_27 ⟨(by rw [X_X11_shown, if_neg c_1, if_pos c_2]), (congrArg (fun q => some (Value.int q)) (by show _ = _; rw [V_X11_shown, if_neg c_1, if_pos c_2])), rfl, rfl⟩
  · skip
    refine v_aload_n (pc := 6) C dX11_shown_6 0 rfl rfl ?_
    refine v_get (pc := 7) C (0, 0) (v := .ref (A (11, 0))) ck_0 rfl 5 (by decide) inX11 wd_225 rfl rfl dX11_shown_7 ?_
    refine v_get (pc := 10) C (11, 0) (v := .int ((g 6 0 0))) ck_11 rfl 0 (by decide) inX10 wd_167 rfl rfl dX11_shown_10 ?_
    exact v_iret (pc := 13) C (by decide) (by decide) dX11_shown_13 ⟨(by rw [X_X11_shown, if_pos c_1]), (congrArg (fun q => some (Value.int q)) (by show _ = _; rw [V_X11_shown, if_pos c_1])), rfl, rfl⟩
def X_X11_conflictAt (g : vS) (x : Int32) : Nat := (if x < 0 then 5 else (if (g 5 0 0) ≤ x then 5 else (if x < 10 then 0 else 5)))
def V_X11_conflictAt (g : vS) (x : Int32) : Int32 := (if x < 0 then 0 else (if (g 5 0 0) ≤ x then 0 else (if x < 10 then (g 84 (x).toNatClampNeg 0) else 0)))
set_option maxHeartbeats 4000000 in
set_option maxRecDepth 100000 in
theorem c_X11_conflictAt {G : vG} (hG : G.1.stackTraces = false) {A : vN → Nat} {g : vS} {r : vH} (x : Int32)  : vCt G yX11_conflictAt cX11_conflictAt 2 (some .int) 0 [.ref (A (0, 0)), .int (x)] A (w g r) (fun v A2 h2 => X_X11_conflictAt g x = 0 ∧ v = some (.int (V_X11_conflictAt g x)) ∧ A2 = A ∧ h2 = w g r) (fun cls A2 h2 => X_X11_conflictAt g x ≠ 0 ∧ cls = vEx (X_X11_conflictAt g x) ∧ A2 = A ∧ h2 = w g r) 1 6 := by
  refine v_of hG (by decide +kernel) (Nat.le_of_ble_eq_true rfl) (lv := [(0, .ref (A (0, 0))), (1, .int (x))]) rfl (fun X C hnx => ?_)
  have C : vC G X cX11_conflictAt 2 RX11 (some .int) "conflictAt" 0 1 6 := C
  refine v_iload_n (pc := 0) C dX11_conflictAt_0 1 rfl rfl ?_
  refine v_if_lt (pc := 1) (tgt := 21) C dX11_conflictAt_1 (by decide) (fun c_1 => ?_) (fun c_1 => ?_)
  · skip
    exact v_throwW (pc := 21) C hnx (cls := "java/lang/IndexOutOfBoundsException") (text := "there is no such conflict") (by decide +kernel) wd_1003 wd_82 (by decide +kernel) at_IndexOutOfBoundsException (by decide) (by decide) (by decide) dX11_conflictAt_21 dX11_conflictAt_24 dX11_conflictAt_25 dX11_conflictAt_28 dX11_conflictAt_31 ⟨by rw [show (X_X11_conflictAt g x) = 5 from (by rw [X_X11_conflictAt, if_pos c_1])]; decide, by rw [show (X_X11_conflictAt g x) = 5 from (by rw [X_X11_conflictAt, if_pos c_1])]; rfl, rfl, rfl⟩
  · skip
    refine v_iload_n (pc := 4) C dX11_conflictAt_4 1 rfl rfl ?_
    refine v_aload_n (pc := 5) C dX11_conflictAt_5 0 rfl rfl ?_
    refine v_get (pc := 6) C (0, 0) (v := .int ((g 5 0 0))) ck_0 rfl 11 (by decide) inX11 wd_231 rfl rfl dX11_conflictAt_6 ?_
    refine v_icmp_ge (pc := 9) (tgt := 21) C dX11_conflictAt_9 (by decide) (fun c_2 => ?_) (fun c_2 => ?_)
    · skip
      exact v_throwW (pc := 21) C hnx (cls := "java/lang/IndexOutOfBoundsException") (text := "there is no such conflict") (by decide +kernel) wd_1003 wd_82 (by decide +kernel) at_IndexOutOfBoundsException (by decide) (by decide) (by decide) dX11_conflictAt_21 dX11_conflictAt_24 dX11_conflictAt_25 dX11_conflictAt_28 dX11_conflictAt_31 ⟨by rw [show (X_X11_conflictAt g x) = 5 from (by rw [X_X11_conflictAt, if_neg c_1, if_pos c_2])]; decide, by rw [show (X_X11_conflictAt g x) = 5 from (by rw [X_X11_conflictAt, if_neg c_1, if_pos c_2])]; rfl, rfl, rfl⟩
    · skip
      refine v_iload_n (pc := 12) C dX11_conflictAt_12 1 rfl rfl ?_
      refine v_aload_n (pc := 13) C dX11_conflictAt_13 0 rfl rfl ?_
      refine v_get (pc := 14) C (0, 0) (v := .ref (A (21, 0))) ck_0 rfl 7 (by decide) inX11 wd_227 rfl rfl dX11_conflictAt_14 ?_
      refine v_alen (pc := 17) C (21, 0) (v := 10) ck_21 rfl (by decide) dX11_conflictAt_17 ?_
      refine v_icmp_lt (pc := 18) (tgt := 32) C dX11_conflictAt_18 (by decide) (fun c_3 => ?_) (fun c_3 => ?_)
      · skip
        refine v_aload_n (pc := 32) C dX11_conflictAt_32 0 rfl rfl ?_
        refine v_get (pc := 33) C (0, 0) (v := .ref (A (21, 0))) ck_0 rfl 7 (by decide) inX11 wd_227 rfl rfl dX11_conflictAt_33 ?_
        refine v_iload_n (pc := 36) C dX11_conflictAt_36 1 rfl rfl ?_
        refine v_iald (pc := 37) C (21, 0) (v := (g 84 (x).toNatClampNeg 0)) ck_21 (by (try simp only [Int32.le_iff_toInt_le, Int32.lt_iff_toInt_lt, ← Int32.toInt_inj, vp_in_iff, Int32.reduceToInt] at c_1 c_2 c_3 ⊢) <;> omega) rfl dX11_conflictAt_37 ?_
        exact v_iret (pc := 38) C (by decide) (by decide) dX11_conflictAt_38 ⟨(by rw [X_X11_conflictAt, if_neg c_1, if_neg c_2, if_pos c_3]), (congrArg (fun q => some (Value.int q)) (by show _ = _; rw [V_X11_conflictAt, if_neg c_1, if_neg c_2, if_pos c_3])), rfl, rfl⟩
      · skip
        exact v_throwW (pc := 21) C hnx (cls := "java/lang/IndexOutOfBoundsException") (text := "there is no such conflict") (by decide +kernel) wd_1003 wd_82 (by decide +kernel) at_IndexOutOfBoundsException (by decide) (by decide) (by decide) dX11_conflictAt_21 dX11_conflictAt_24 dX11_conflictAt_25 dX11_conflictAt_28 dX11_conflictAt_31 ⟨by rw [show (X_X11_conflictAt g x) = 5 from (by rw [X_X11_conflictAt, if_neg c_1, if_neg c_2, if_neg c_3])]; decide, by rw [show (X_X11_conflictAt g x) = 5 from (by rw [X_X11_conflictAt, if_neg c_1, if_neg c_2, if_neg c_3])]; rfl, rfl, rfl⟩
def X_X11_show (g : vS) (u : Int32) (l : Int32) : Nat := (if (X_X11_needUser g (u)) = 0 then (if (X_X11_needLeaves g (l)) = 0 then 0 else (X_X11_needLeaves g (l))) else (X_X11_needUser g (u)))
def V_X11_show (g : vS) (u : Int32) (l : Int32) : Int32 := (if (X_X11_needUser g (u)) = 0 then (if (X_X11_needLeaves g (l)) = 0 then (if l < (g 22 (u).toNatClampNeg 0) then 97 else (if (V_X11_isHeadInLog g ((u).toNatClampNeg)) = 0 then 97 else 107)) else 0) else 0)
def S_X11_show (g : vS) (u : Int32) (l : Int32) : vS := (if (X_X11_needUser g (u)) = 0 then (if (X_X11_needLeaves g (l)) = 0 then (if l < (g 22 (u).toNatClampNeg 0) then (s3 g 24 (u).toNatClampNeg 0 (((g 24 (u).toNatClampNeg 0) + 1))) else (if (V_X11_isHeadInLog g ((u).toNatClampNeg)) = 0 then (s3 g 24 (u).toNatClampNeg 0 (((g 24 (u).toNatClampNeg 0) + 1))) else (s3 (s3 g 22 (u).toNatClampNeg 0 (l)) 23 (u).toNatClampNeg 0 ((V_X5_rootOf (s3 g 22 (u).toNatClampNeg 0 (l)) (l)))))) else g) else g)
theorem F_X11_show {g : vS} {u : Int32} {l : Int32} {c i j : Nat} (h22 : c ≠ 22) (h23 : c ≠ 23) (h24 : c ≠ 24) : S_X11_show g u l c i j = g c i j := by
  unfold S_X11_show
  (repeat' split) <;> first | rfl | ((simp only [s3_k h22, s3_k h23, s3_k h24]) <;> first | done | rfl)
set_option maxHeartbeats 4000000 in
set_option maxRecDepth 100000 in
theorem c_X11_show {G : vG} (hG : G.1.stackTraces = false) {A : vN → Nat} {g : vS} {r : vH} (u : Int32) (l : Int32)  : vCt G yX11_show cX11_show 4 (some .char) 18 [.ref (A (0, 0)), .int (u), .int (l)] A (w g r) (fun v A2 h2 => X_X11_show g u l = 0 ∧ v = some (.int (V_X11_show g u l)) ∧ A2 = A ∧ h2 = w (S_X11_show g u l) r) (fun cls A2 h2 => X_X11_show g u l ≠ 0 ∧ cls = vEx (X_X11_show g u l) ∧ A2 = A ∧ h2 = w (S_X11_show g u l) r) 2 12 := by
  refine v_of hG (by decide +kernel) (Nat.le_of_ble_eq_true rfl) (lv := [(0, .ref (A (0, 0))), (1, .int (u)), (2, .int (l))]) rfl (fun X C hnx => ?_)
  have C : vC G X cX11_show 4 RX11 (some .char) "show" 18 2 12 := C
  refine v_aload_n (pc := 0) C dX11_show_0 0 rfl rfl ?_
  refine v_iload_n (pc := 1) C dX11_show_1 1 rfl rfl ?_
  refine v_callV (pc := 2) C (0, 0) ck_0 rfl (c_X11_needUser hG (u) ) 1 wd_513 wd_62 wd_510 wd_512 wd_5 (by decide +kernel) (by decide) (by decide) rfl ([]) rfl (Nat.le_of_ble_eq_true rfl) (by decide) dX11_show_2 (fun cls9 A9 h9 hE9 => by obtain ⟨q9, rfl, rfl, rfl⟩ := hE9; exact v_out C hnx ⟨(by rw [show (X_X11_show g u l) = (X_X11_needUser g (u)) from (by rw [X_X11_show, if_neg q9])]; exact q9), (by rw [show (X_X11_show g u l) = (X_X11_needUser g (u)) from (by rw [X_X11_show, if_neg q9])]), rfl, (congrArg (fun q => w q r) (by show _ = _; rw [S_X11_show, if_neg q9]))⟩ (by decide) (by decide)) (fun v9 A9 h9 hR9 => ?_)
  obtain ⟨x_1, rfl, hA9, rfl⟩ := hR9
  obtain rfl := hA9.symm
  refine v_st (k2 := 1) (n2 := 6) (st2 := [.ref (A (22, (u).toNatClampNeg))]) rfl rfl rfl ?_
  refine v_astore_n (lv2 := [(3, .ref (A (22, (u).toNatClampNeg))), (0, .ref (A (0, 0))), (1, .int (u)), (2, .int (l))]) (pc := 5) C dX11_show_5 rfl (by decide) rfl ?_
  refine v_aload_n (pc := 6) C dX11_show_6 1 rfl rfl ?_
  refine v_iload_n (pc := 7) C dX11_show_7 3 rfl rfl ?_
  refine v_callV (pc := 8) C (0, 0) ck_0 rfl (c_X11_needLeaves hG (l) ) 1 wd_1049 wd_62 wd_1046 wd_1048 wd_21 (by decide +kernel) (by decide) (by decide) rfl ([]) rfl (Nat.le_of_ble_eq_true rfl) (by decide) dX11_show_8 (fun cls9 A9 h9 hE9 => by obtain ⟨q9, rfl, rfl, rfl⟩ := hE9; exact v_out C hnx ⟨(by rw [show (X_X11_show g u l) = (X_X11_needLeaves g (l)) from (by rw [X_X11_show, if_pos x_1, if_neg q9])]; exact q9), (by rw [show (X_X11_show g u l) = (X_X11_needLeaves g (l)) from (by rw [X_X11_show, if_pos x_1, if_neg q9])]), rfl, (congrArg (fun q => w q r) (by show _ = _; rw [S_X11_show, if_pos x_1, if_neg q9]))⟩ (by decide) (by decide)) (fun v9 A9 h9 hR9 => ?_)
  obtain ⟨x_2, rfl, hA9, rfl⟩ := hR9
  obtain rfl := hA9.symm
  refine v_st (k2 := 2) (n2 := 12) (st2 := []) rfl rfl rfl ?_
  refine v_iload_n (pc := 11) C dX11_show_11 3 rfl rfl ?_
  refine v_aload_n (pc := 12) C dX11_show_12 0 rfl rfl ?_
  refine v_get (pc := 13) C (22, (u).toNatClampNeg) (v := .int ((g 22 (u).toNatClampNeg 0))) (ck_22 (g := g) (ok_needUser x_1)) rfl 4 (by decide) inX9 wd_478 rfl rfl dX11_show_13 ?_
  refine v_icmp_lt (pc := 16) (tgt := 27) C dX11_show_16 (by decide) (fun c_3 => ?_) (fun c_3 => ?_)
  · skip
    refine v_aload_n (pc := 27) C dX11_show_27 0 rfl rfl ?_
    refine v_dup (pc := 28) C dX11_show_28 rfl ?_
    refine v_get (pc := 29) C (22, (u).toNatClampNeg) (v := .int ((g 24 (u).toNatClampNeg 0))) (ck_22 (g := g) (ok_needUser x_1)) rfl 6 (by decide) inX9 wd_480 rfl rfl dX11_show_29 ?_
    refine v_iconst (v := 1) (pc := 32) C dX11_show_32 rfl ?_
    refine v_iadd (pc := 33) C dX11_show_33 ?_
    refine v_put (pc := 34) C (22, (u).toNatClampNeg) (v := .int (((g 24 (u).toNatClampNeg 0) + 1))) (ck_22 (g := g) (ok_needUser x_1)) rfl 6 (by decide) inX9 tyX9 tyX9_ok nmX9 wd_480 rfl (.inl (Value.int (((g 24 (u).toNatClampNeg 0) + 1)))) rfl (ty := tyX9 6) (by decide +kernel) rfl rfl (Nat.le_of_ble_eq_true rfl) dX11_show_34 ?_
    refine v_h (h2 := (w (s3 g 24 (u).toNatClampNeg 0 (((g 24 (u).toNatClampNeg 0) + 1))) r)) (u_22_6 (g := g) (ok_needUser x_1)) ?_
    refine v_bipush (v := 97) (pc := 37) C dX11_show_37 (by decide) ?_
    exact v_zret (pc := 39) C rfl (by decide) (by decide) dX11_show_39 ⟨(by rw [X_X11_show, if_pos x_1, if_pos x_2]), (congrArg (fun q => some (Value.int q)) (by show _ = _; rw [V_X11_show, if_pos x_1, if_pos x_2, if_pos c_3])), rfl, (congrArg (fun q => w q r) (by show _ = _; rw [S_X11_show, if_pos x_1, if_pos x_2, if_pos c_3]))⟩
  · skip
    refine v_aload_n (pc := 19) C dX11_show_19 1 rfl rfl ?_
    refine v_aload_n (pc := 20) C dX11_show_20 0 rfl rfl ?_
    refine v_callV (pc := 21) C (0, 0) ck_0 rfl (c_X11_isHeadInLog hG ((u).toNatClampNeg) (ok_needUser x_1)) 1 wd_1142 wd_62 wd_1139 wd_1141 wd_26 (by decide +kernel) (by decide) (by decide) rfl ([]) rfl (Nat.le_of_ble_eq_true rfl) (by decide) dX11_show_21 (fun _ _ _ q => q.elim) (fun v9 A9 h9 hR9 => ?_)
    obtain ⟨rfl, hA9, rfl⟩ := hR9
    obtain rfl := hA9.symm
    refine v_st (k2 := 2) (n2 := 12) (st2 := [.int ((V_X11_isHeadInLog g ((u).toNatClampNeg)))]) rfl rfl rfl ?_
    refine v_if_ne (pc := 24) (tgt := 40) C dX11_show_24 (by decide) (fun c_4 => ?_) (fun c_4 => ?_)
    · skip
      refine v_aload_n (pc := 40) C dX11_show_40 0 rfl rfl ?_
      refine v_iload_n (pc := 41) C dX11_show_41 3 rfl rfl ?_
      refine v_put (pc := 42) C (22, (u).toNatClampNeg) (v := .int (l)) (ck_22 (g := g) (ok_needUser x_1)) rfl 4 (by decide) inX9 tyX9 tyX9_ok nmX9 wd_478 rfl (.inl (Value.int (l))) rfl (ty := tyX9 4) (by decide +kernel) rfl rfl (Nat.le_of_ble_eq_true rfl) dX11_show_42 ?_
      refine v_h (h2 := (w (s3 g 22 (u).toNatClampNeg 0 (l)) r)) (u_22_4 (g := g) (ok_needUser x_1)) ?_
      refine v_aload_n (pc := 45) C dX11_show_45 0 rfl rfl ?_
      refine v_aload_n (pc := 46) C dX11_show_46 1 rfl rfl ?_
      refine v_get (pc := 47) C (0, 0) (v := .ref (A (4, 0))) ck_0 rfl 3 (by decide) inX11 wd_223 rfl rfl dX11_show_47 ?_
      refine v_iload_n (pc := 50) C dX11_show_50 3 rfl rfl ?_
      refine v_callV (pc := 51) C (4, 0) ck_4 rfl (c_X5_rootOf hG (l) ) 1 wd_1054 wd_63 wd_1051 wd_1052 wd_1053 (by decide +kernel) (by decide) (by decide) rfl ([.ref (A (22, (u).toNatClampNeg))]) rfl (Nat.le_of_ble_eq_true rfl) (by decide) dX11_show_51 (fun _ _ _ q => q.elim) (fun v9 A9 h9 hR9 => ?_)
      obtain ⟨rfl, hA9, rfl⟩ := hR9
      obtain rfl := hA9.symm
      refine v_st (k2 := 2) (n2 := 12) (st2 := [.int ((V_X5_rootOf (s3 g 22 (u).toNatClampNeg 0 (l)) (l))), .ref (A (22, (u).toNatClampNeg))]) rfl rfl rfl ?_
      refine v_put (pc := 54) C (22, (u).toNatClampNeg) (v := .int ((V_X5_rootOf (s3 g 22 (u).toNatClampNeg 0 (l)) (l)))) (ck_22 (g := (s3 g 22 (u).toNatClampNeg 0 (l))) (ok_needUser x_1)) rfl 5 (by decide) inX9 tyX9 tyX9_ok nmX9 wd_479 rfl (.inl (Value.int ((V_X5_rootOf (s3 g 22 (u).toNatClampNeg 0 (l)) (l))))) rfl (ty := tyX9 5) (by decide +kernel) rfl rfl (Nat.le_of_ble_eq_true rfl) dX11_show_54 ?_
      refine v_h (h2 := (w (s3 (s3 g 22 (u).toNatClampNeg 0 (l)) 23 (u).toNatClampNeg 0 ((V_X5_rootOf (s3 g 22 (u).toNatClampNeg 0 (l)) (l)))) r)) (u_22_5 (g := (s3 g 22 (u).toNatClampNeg 0 (l))) (ok_needUser x_1)) ?_
      refine v_bipush (v := 107) (pc := 57) C dX11_show_57 (by decide) ?_
      exact v_zret (pc := 59) C rfl (by decide) (by decide) dX11_show_59 ⟨(by rw [X_X11_show, if_pos x_1, if_pos x_2]), (congrArg (fun q => some (Value.int q)) (by show _ = _; rw [V_X11_show, if_pos x_1, if_pos x_2, if_neg c_3, if_neg c_4])), rfl, (congrArg (fun q => w q r) (by show _ = _; rw [S_X11_show, if_pos x_1, if_pos x_2, if_neg c_3, if_neg c_4]))⟩
    · skip
      refine v_aload_n (pc := 27) C dX11_show_27 0 rfl rfl ?_
      refine v_dup (pc := 28) C dX11_show_28 rfl ?_
      refine v_get (pc := 29) C (22, (u).toNatClampNeg) (v := .int ((g 24 (u).toNatClampNeg 0))) (ck_22 (g := g) (ok_needUser x_1)) rfl 6 (by decide) inX9 wd_480 rfl rfl dX11_show_29 ?_
      refine v_iconst (v := 1) (pc := 32) C dX11_show_32 rfl ?_
      refine v_iadd (pc := 33) C dX11_show_33 ?_
      refine v_put (pc := 34) C (22, (u).toNatClampNeg) (v := .int (((g 24 (u).toNatClampNeg 0) + 1))) (ck_22 (g := g) (ok_needUser x_1)) rfl 6 (by decide) inX9 tyX9 tyX9_ok nmX9 wd_480 rfl (.inl (Value.int (((g 24 (u).toNatClampNeg 0) + 1)))) rfl (ty := tyX9 6) (by decide +kernel) rfl rfl (Nat.le_of_ble_eq_true rfl) dX11_show_34 ?_
      refine v_h (h2 := (w (s3 g 24 (u).toNatClampNeg 0 (((g 24 (u).toNatClampNeg 0) + 1))) r)) (u_22_6 (g := g) (ok_needUser x_1)) ?_
      refine v_bipush (v := 97) (pc := 37) C dX11_show_37 (by decide) ?_
      exact v_zret (pc := 39) C rfl (by decide) (by decide) dX11_show_39 ⟨(by rw [X_X11_show, if_pos x_1, if_pos x_2]), (congrArg (fun q => some (Value.int q)) (by show _ = _; rw [V_X11_show, if_pos x_1, if_pos x_2, if_neg c_3, if_pos c_4])), rfl, (congrArg (fun q => w q r) (by show _ = _; rw [S_X11_show, if_pos x_1, if_pos x_2, if_neg c_3, if_pos c_4]))⟩
def X_X11_meet (g : vS) (u : Int32) (x : Int32) : Nat := (if (X_X11_needUser g (u)) = 0 then (if (X_X11_needUser g (x)) = 0 then (if u = x then 2 else 0) else (X_X11_needUser g (x))) else (X_X11_needUser g (u)))
def V_X11_meet (g : vS) (u : Int32) (x : Int32) : Int32 := (if (X_X11_needUser g (u)) = 0 then (if (X_X11_needUser g (x)) = 0 then (if u = x then 0 else (if (g 22 (u).toNatClampNeg 0) = (g 22 (x).toNatClampNeg 0) then (if (g 23 (u).toNatClampNeg 0) = (g 23 (x).toNatClampNeg 0) then 107 else (if (V_X11_isHeadInLog g ((u).toNatClampNeg)) = 0 then 97 else (if (V_X11_isHeadInLog g ((x).toNatClampNeg)) = 0 then 97 else 107))) else (if (V_X11_isHeadInLog g ((u).toNatClampNeg)) = 0 then 97 else (if (V_X11_isHeadInLog g ((x).toNatClampNeg)) = 0 then 97 else 107)))) else 0) else 0)
def S_X11_meet (g : vS) (u : Int32) (x : Int32) : vS := (if (X_X11_needUser g (u)) = 0 then (if (X_X11_needUser g (x)) = 0 then (if u = x then g else (if (g 22 (u).toNatClampNeg 0) = (g 22 (x).toNatClampNeg 0) then (if (g 23 (u).toNatClampNeg 0) = (g 23 (x).toNatClampNeg 0) then g else (if (V_X11_isHeadInLog g ((u).toNatClampNeg)) = 0 then (s3 (s3 g 24 (u).toNatClampNeg 0 (((g 24 (u).toNatClampNeg 0) + 1))) 24 (x).toNatClampNeg 0 ((((s3 g 24 (u).toNatClampNeg 0 (((g 24 (u).toNatClampNeg 0) + 1))) 24 (x).toNatClampNeg 0) + 1))) else (if (V_X11_isHeadInLog g ((x).toNatClampNeg)) = 0 then (s3 (s3 g 24 (u).toNatClampNeg 0 (((g 24 (u).toNatClampNeg 0) + 1))) 24 (x).toNatClampNeg 0 ((((s3 g 24 (u).toNatClampNeg 0 (((g 24 (u).toNatClampNeg 0) + 1))) 24 (x).toNatClampNeg 0) + 1))) else g))) else (if (V_X11_isHeadInLog g ((u).toNatClampNeg)) = 0 then (s3 (s3 g 24 (u).toNatClampNeg 0 (((g 24 (u).toNatClampNeg 0) + 1))) 24 (x).toNatClampNeg 0 ((((s3 g 24 (u).toNatClampNeg 0 (((g 24 (u).toNatClampNeg 0) + 1))) 24 (x).toNatClampNeg 0) + 1))) else (if (V_X11_isHeadInLog g ((x).toNatClampNeg)) = 0 then (s3 (s3 g 24 (u).toNatClampNeg 0 (((g 24 (u).toNatClampNeg 0) + 1))) 24 (x).toNatClampNeg 0 ((((s3 g 24 (u).toNatClampNeg 0 (((g 24 (u).toNatClampNeg 0) + 1))) 24 (x).toNatClampNeg 0) + 1))) else g)))) else g) else g)
theorem F_X11_meet {g : vS} {u : Int32} {x : Int32} {c i j : Nat} (h24 : c ≠ 24) : S_X11_meet g u x c i j = g c i j := by
  unfold S_X11_meet
  (repeat' split) <;> first | rfl | ((simp only [s3_k h24]) <;> first | done | rfl)
set_option maxHeartbeats 4000000 in
set_option maxRecDepth 100000 in
theorem c_X11_meet {G : vG} (hG : G.1.stackTraces = false) {A : vN → Nat} {g : vS} {r : vH} (u : Int32) (x : Int32)  : vCt G yX11_meet cX11_meet 6 (some .char) 18 [.ref (A (0, 0)), .int (u), .int (x)] A (w g r) (fun v A2 h2 => X_X11_meet g u x = 0 ∧ v = some (.int (V_X11_meet g u x)) ∧ A2 = A ∧ h2 = w (S_X11_meet g u x) r) (fun cls A2 h2 => X_X11_meet g u x ≠ 0 ∧ cls = vEx (X_X11_meet g u x) ∧ A2 = A ∧ h2 = w (S_X11_meet g u x) r) 3 18 := by
  refine v_of hG (by decide +kernel) (Nat.le_of_ble_eq_true rfl) (lv := [(0, .ref (A (0, 0))), (1, .int (u)), (2, .int (x))]) rfl (fun X C hnx => ?_)
  have C : vC G X cX11_meet 6 RX11 (some .char) "meet" 18 3 18 := C
  refine v_aload_n (pc := 0) C dX11_meet_0 0 rfl rfl ?_
  refine v_iload_n (pc := 1) C dX11_meet_1 1 rfl rfl ?_
  refine v_callV (pc := 2) C (0, 0) ck_0 rfl (c_X11_needUser hG (u) ) 1 wd_513 wd_62 wd_510 wd_512 wd_5 (by decide +kernel) (by decide) (by decide) rfl ([]) rfl (Nat.le_of_ble_eq_true rfl) (by decide) dX11_meet_2 (fun cls9 A9 h9 hE9 => by obtain ⟨q9, rfl, rfl, rfl⟩ := hE9; exact v_out C hnx ⟨(by rw [show (X_X11_meet g u x) = (X_X11_needUser g (u)) from (by rw [X_X11_meet, if_neg q9])]; exact q9), (by rw [show (X_X11_meet g u x) = (X_X11_needUser g (u)) from (by rw [X_X11_meet, if_neg q9])]), rfl, (congrArg (fun q => w q r) (by show _ = _; rw [S_X11_meet, if_neg q9]))⟩ (by decide) (by decide)) (fun v9 A9 h9 hR9 => ?_)
  obtain ⟨x_1, rfl, hA9, rfl⟩ := hR9
  obtain rfl := hA9.symm
  refine v_st (k2 := 1) (n2 := 6) (st2 := [.ref (A (22, (u).toNatClampNeg))]) rfl rfl rfl ?_
  refine v_astore_n (lv2 := [(3, .ref (A (22, (u).toNatClampNeg))), (0, .ref (A (0, 0))), (1, .int (u)), (2, .int (x))]) (pc := 5) C dX11_meet_5 rfl (by decide) rfl ?_
  refine v_aload_n (pc := 6) C dX11_meet_6 1 rfl rfl ?_
  refine v_iload_n (pc := 7) C dX11_meet_7 3 rfl rfl ?_
  refine v_callV (pc := 8) C (0, 0) ck_0 rfl (c_X11_needUser hG (x) ) 1 wd_513 wd_62 wd_510 wd_512 wd_5 (by decide +kernel) (by decide) (by decide) rfl ([]) rfl (Nat.le_of_ble_eq_true rfl) (by decide) dX11_meet_8 (fun cls9 A9 h9 hE9 => by obtain ⟨q9, rfl, rfl, rfl⟩ := hE9; exact v_out C hnx ⟨(by rw [show (X_X11_meet g u x) = (X_X11_needUser g (x)) from (by rw [X_X11_meet, if_pos x_1, if_neg q9])]; exact q9), (by rw [show (X_X11_meet g u x) = (X_X11_needUser g (x)) from (by rw [X_X11_meet, if_pos x_1, if_neg q9])]), rfl, (congrArg (fun q => w q r) (by show _ = _; rw [S_X11_meet, if_pos x_1, if_neg q9]))⟩ (by decide) (by decide)) (fun v9 A9 h9 hR9 => ?_)
  obtain ⟨x_2, rfl, hA9, rfl⟩ := hR9
  obtain rfl := hA9.symm
  refine v_st (k2 := 2) (n2 := 12) (st2 := [.ref (A (22, (x).toNatClampNeg))]) rfl rfl rfl ?_
  refine v_astore (lv2 := [(4, .ref (A (22, (x).toNatClampNeg))), (3, .ref (A (22, (u).toNatClampNeg))), (0, .ref (A (0, 0))), (1, .int (u)), (2, .int (x))]) (pc := 11) C dX11_meet_11 (by decide) rfl ?_
  refine v_iload_n (pc := 13) C dX11_meet_13 3 rfl rfl ?_
  refine v_iload_n (pc := 14) C dX11_meet_14 4 rfl rfl ?_
  refine v_icmp_ne (pc := 15) (tgt := 29) C dX11_meet_15 (by decide) (fun c_3 => ?_) (fun c_3 => ?_)
  · skip
    refine v_aload_n (pc := 29) C dX11_meet_29 1 rfl rfl ?_
    refine v_get (pc := 30) C (22, (u).toNatClampNeg) (v := .int ((g 22 (u).toNatClampNeg 0))) (ck_22 (g := g) (ok_needUser x_1)) rfl 4 (by decide) inX9 wd_478 rfl rfl dX11_meet_30 ?_
    refine v_aload (pc := 33) C dX11_meet_33 0 rfl ?_
    refine v_get (pc := 35) C (22, (x).toNatClampNeg) (v := .int ((g 22 (x).toNatClampNeg 0))) (ck_22 (g := g) (ok_needUser x_2)) rfl 4 (by decide) inX9 wd_478 rfl rfl dX11_meet_35 ?_
    refine v_icmp_ne (pc := 38) (tgt := 57) C dX11_meet_38 (by decide) (fun c_4 => ?_) (fun c_4 => ?_)
    · skip
      refine v_iconst (v := 0) (pc := 57) C dX11_meet_57 rfl ?_
      refine v_istore (lv2 := [(5, .int (0)), (4, .ref (A (22, (x).toNatClampNeg))), (3, .ref (A (22, (u).toNatClampNeg))), (0, .ref (A (0, 0))), (1, .int (u)), (2, .int (x))]) (pc := 58) C dX11_meet_58 (by decide) rfl ?_
      refine v_iload (pc := 60) C dX11_meet_60 0 rfl ?_
      refine v_if_ne (pc := 62) (tgt := 82) C dX11_meet_62 (by decide) (fun c_5 => ?_) (fun c_5 => ?_)
      · skip
        exact absurd c_5 (by decide)
      · skip
        refine v_aload_n (pc := 65) C dX11_meet_65 3 rfl rfl ?_
        refine v_aload_n (pc := 66) C dX11_meet_66 2 rfl rfl ?_
        refine v_callV (pc := 67) C (0, 0) ck_0 rfl (c_X11_isHeadInLog hG ((u).toNatClampNeg) (ok_needUser x_1)) 1 wd_1142 wd_62 wd_1139 wd_1141 wd_26 (by decide +kernel) (by decide) (by decide) rfl ([]) rfl (Nat.le_of_ble_eq_true rfl) (by decide) dX11_meet_67 (fun _ _ _ q => q.elim) (fun v9 A9 h9 hR9 => ?_)
        obtain ⟨rfl, hA9, rfl⟩ := hR9
        obtain rfl := hA9.symm
        refine v_st (k2 := 2) (n2 := 12) (st2 := [.int ((V_X11_isHeadInLog g ((u).toNatClampNeg)))]) rfl rfl rfl ?_
        refine v_if_eq (pc := 70) (tgt := 85) C dX11_meet_70 (by decide) (fun c_6 => ?_) (fun c_6 => ?_)
        · skip
          refine v_aload_n (pc := 85) C dX11_meet_85 2 rfl rfl ?_
          refine v_dup (pc := 86) C dX11_meet_86 rfl ?_
          refine v_get (pc := 87) C (22, (u).toNatClampNeg) (v := .int ((g 24 (u).toNatClampNeg 0))) (ck_22 (g := g) (ok_needUser x_1)) rfl 6 (by decide) inX9 wd_480 rfl rfl dX11_meet_87 ?_
          refine v_iconst (v := 1) (pc := 90) C dX11_meet_90 rfl ?_
          refine v_iadd (pc := 91) C dX11_meet_91 ?_
          refine v_put (pc := 92) C (22, (u).toNatClampNeg) (v := .int (((g 24 (u).toNatClampNeg 0) + 1))) (ck_22 (g := g) (ok_needUser x_1)) rfl 6 (by decide) inX9 tyX9 tyX9_ok nmX9 wd_480 rfl (.inl (Value.int (((g 24 (u).toNatClampNeg 0) + 1)))) rfl (ty := tyX9 6) (by decide +kernel) rfl rfl (Nat.le_of_ble_eq_true rfl) dX11_meet_92 ?_
          refine v_h (h2 := (w (s3 g 24 (u).toNatClampNeg 0 (((g 24 (u).toNatClampNeg 0) + 1))) r)) (u_22_6 (g := g) (ok_needUser x_1)) ?_
          refine v_aload (pc := 95) C dX11_meet_95 1 rfl ?_
          refine v_dup (pc := 97) C dX11_meet_97 rfl ?_
          refine v_get (pc := 98) C (22, (x).toNatClampNeg) (v := .int (((s3 g 24 (u).toNatClampNeg 0 (((g 24 (u).toNatClampNeg 0) + 1))) 24 (x).toNatClampNeg 0))) (ck_22 (g := (s3 g 24 (u).toNatClampNeg 0 (((g 24 (u).toNatClampNeg 0) + 1)))) (ok_needUser x_2)) rfl 6 (by decide) inX9 wd_480 rfl rfl dX11_meet_98 ?_
          refine v_iconst (v := 1) (pc := 101) C dX11_meet_101 rfl ?_
          refine v_iadd (pc := 102) C dX11_meet_102 ?_
          refine v_put (pc := 103) C (22, (x).toNatClampNeg) (v := .int ((((s3 g 24 (u).toNatClampNeg 0 (((g 24 (u).toNatClampNeg 0) + 1))) 24 (x).toNatClampNeg 0) + 1))) (ck_22 (g := (s3 g 24 (u).toNatClampNeg 0 (((g 24 (u).toNatClampNeg 0) + 1)))) (ok_needUser x_2)) rfl 6 (by decide) inX9 tyX9 tyX9_ok nmX9 wd_480 rfl (.inl (Value.int ((((s3 g 24 (u).toNatClampNeg 0 (((g 24 (u).toNatClampNeg 0) + 1))) 24 (x).toNatClampNeg 0) + 1)))) rfl (ty := tyX9 6) (by decide +kernel) rfl rfl (Nat.le_of_ble_eq_true rfl) dX11_meet_103 ?_
          refine v_h (h2 := (w (s3 (s3 g 24 (u).toNatClampNeg 0 (((g 24 (u).toNatClampNeg 0) + 1))) 24 (x).toNatClampNeg 0 ((((s3 g 24 (u).toNatClampNeg 0 (((g 24 (u).toNatClampNeg 0) + 1))) 24 (x).toNatClampNeg 0) + 1))) r)) (u_22_6 (g := (s3 g 24 (u).toNatClampNeg 0 (((g 24 (u).toNatClampNeg 0) + 1)))) (ok_needUser x_2)) ?_
          refine v_bipush (v := 97) (pc := 106) C dX11_meet_106 (by decide) ?_
          exact v_zret (pc := 108) C rfl (by decide) (by decide) dX11_meet_108 ⟨(by rw [X_X11_meet, if_pos x_1, if_pos x_2, if_neg c_3]), (congrArg (fun q => some (Value.int q)) (by show _ = _; rw [V_X11_meet, if_pos x_1, if_pos x_2, if_neg c_3, if_neg c_4, if_pos c_6])), rfl, (congrArg (fun q => w q r) (by show _ = _; rw [S_X11_meet, if_pos x_1, if_pos x_2, if_neg c_3, if_neg c_4, if_pos c_6]))⟩
        · skip
          refine v_aload_n (pc := 73) C dX11_meet_73 3 rfl rfl ?_
          refine v_aload (pc := 74) C dX11_meet_74 1 rfl ?_
          refine v_callV (pc := 76) C (0, 0) ck_0 rfl (c_X11_isHeadInLog hG ((x).toNatClampNeg) (ok_needUser x_2)) 1 wd_1142 wd_62 wd_1139 wd_1141 wd_26 (by decide +kernel) (by decide) (by decide) rfl ([]) rfl (Nat.le_of_ble_eq_true rfl) (by decide) dX11_meet_76 (fun _ _ _ q => q.elim) (fun v9 A9 h9 hR9 => ?_)
          obtain ⟨rfl, hA9, rfl⟩ := hR9
          obtain rfl := hA9.symm
          refine v_st (k2 := 2) (n2 := 12) (st2 := [.int ((V_X11_isHeadInLog g ((x).toNatClampNeg)))]) rfl rfl rfl ?_
          refine v_if_eq (pc := 79) (tgt := 85) C dX11_meet_79 (by decide) (fun c_7 => ?_) (fun c_7 => ?_)
          · skip
            refine v_aload_n (pc := 85) C dX11_meet_85 2 rfl rfl ?_
            refine v_dup (pc := 86) C dX11_meet_86 rfl ?_
            refine v_get (pc := 87) C (22, (u).toNatClampNeg) (v := .int ((g 24 (u).toNatClampNeg 0))) (ck_22 (g := g) (ok_needUser x_1)) rfl 6 (by decide) inX9 wd_480 rfl rfl dX11_meet_87 ?_
            refine v_iconst (v := 1) (pc := 90) C dX11_meet_90 rfl ?_
            refine v_iadd (pc := 91) C dX11_meet_91 ?_
            refine v_put (pc := 92) C (22, (u).toNatClampNeg) (v := .int (((g 24 (u).toNatClampNeg 0) + 1))) (ck_22 (g := g) (ok_needUser x_1)) rfl 6 (by decide) inX9 tyX9 tyX9_ok nmX9 wd_480 rfl (.inl (Value.int (((g 24 (u).toNatClampNeg 0) + 1)))) rfl (ty := tyX9 6) (by decide +kernel) rfl rfl (Nat.le_of_ble_eq_true rfl) dX11_meet_92 ?_
            refine v_h (h2 := (w (s3 g 24 (u).toNatClampNeg 0 (((g 24 (u).toNatClampNeg 0) + 1))) r)) (u_22_6 (g := g) (ok_needUser x_1)) ?_
            refine v_aload (pc := 95) C dX11_meet_95 1 rfl ?_
            refine v_dup (pc := 97) C dX11_meet_97 rfl ?_
            refine v_get (pc := 98) C (22, (x).toNatClampNeg) (v := .int (((s3 g 24 (u).toNatClampNeg 0 (((g 24 (u).toNatClampNeg 0) + 1))) 24 (x).toNatClampNeg 0))) (ck_22 (g := (s3 g 24 (u).toNatClampNeg 0 (((g 24 (u).toNatClampNeg 0) + 1)))) (ok_needUser x_2)) rfl 6 (by decide) inX9 wd_480 rfl rfl dX11_meet_98 ?_
            refine v_iconst (v := 1) (pc := 101) C dX11_meet_101 rfl ?_
            refine v_iadd (pc := 102) C dX11_meet_102 ?_
            refine v_put (pc := 103) C (22, (x).toNatClampNeg) (v := .int ((((s3 g 24 (u).toNatClampNeg 0 (((g 24 (u).toNatClampNeg 0) + 1))) 24 (x).toNatClampNeg 0) + 1))) (ck_22 (g := (s3 g 24 (u).toNatClampNeg 0 (((g 24 (u).toNatClampNeg 0) + 1)))) (ok_needUser x_2)) rfl 6 (by decide) inX9 tyX9 tyX9_ok nmX9 wd_480 rfl (.inl (Value.int ((((s3 g 24 (u).toNatClampNeg 0 (((g 24 (u).toNatClampNeg 0) + 1))) 24 (x).toNatClampNeg 0) + 1)))) rfl (ty := tyX9 6) (by decide +kernel) rfl rfl (Nat.le_of_ble_eq_true rfl) dX11_meet_103 ?_
            refine v_h (h2 := (w (s3 (s3 g 24 (u).toNatClampNeg 0 (((g 24 (u).toNatClampNeg 0) + 1))) 24 (x).toNatClampNeg 0 ((((s3 g 24 (u).toNatClampNeg 0 (((g 24 (u).toNatClampNeg 0) + 1))) 24 (x).toNatClampNeg 0) + 1))) r)) (u_22_6 (g := (s3 g 24 (u).toNatClampNeg 0 (((g 24 (u).toNatClampNeg 0) + 1)))) (ok_needUser x_2)) ?_
            refine v_bipush (v := 97) (pc := 106) C dX11_meet_106 (by decide) ?_
            exact v_zret (pc := 108) C rfl (by decide) (by decide) dX11_meet_108 ⟨(by rw [X_X11_meet, if_pos x_1, if_pos x_2, if_neg c_3]), (congrArg (fun q => some (Value.int q)) (by show _ = _; rw [V_X11_meet, if_pos x_1, if_pos x_2, if_neg c_3, if_neg c_4, if_neg c_6, if_pos c_7])), rfl, (congrArg (fun q => w q r) (by show _ = _; rw [S_X11_meet, if_pos x_1, if_pos x_2, if_neg c_3, if_neg c_4, if_neg c_6, if_pos c_7]))⟩
          · skip
            refine v_bipush (v := 107) (pc := 82) C dX11_meet_82 (by decide) ?_
            exact v_zret (pc := 84) C rfl (by decide) (by decide) dX11_meet_84 ⟨(by rw [X_X11_meet, if_pos x_1, if_pos x_2, if_neg c_3]), (congrArg (fun q => some (Value.int q)) (by show _ = _; rw [V_X11_meet, if_pos x_1, if_pos x_2, if_neg c_3, if_neg c_4, if_neg c_6, if_neg c_7])), rfl, (congrArg (fun q => w q r) (by show _ = _; rw [S_X11_meet, if_pos x_1, if_pos x_2, if_neg c_3, if_neg c_4, if_neg c_6, if_neg c_7]))⟩
    · skip
      refine v_aload_n (pc := 41) C dX11_meet_41 1 rfl rfl ?_
      refine v_get (pc := 42) C (22, (u).toNatClampNeg) (v := .int ((g 23 (u).toNatClampNeg 0))) (ck_22 (g := g) (ok_needUser x_1)) rfl 5 (by decide) inX9 wd_479 rfl rfl dX11_meet_42 ?_
      refine v_aload (pc := 45) C dX11_meet_45 0 rfl ?_
      refine v_get (pc := 47) C (22, (x).toNatClampNeg) (v := .int ((g 23 (x).toNatClampNeg 0))) (ck_22 (g := g) (ok_needUser x_2)) rfl 5 (by decide) inX9 wd_479 rfl rfl dX11_meet_47 ?_
      refine v_icmp_ne (pc := 50) (tgt := 57) C dX11_meet_50 (by decide) (fun c_8 => ?_) (fun c_8 => ?_)
      · skip
        refine v_iconst (v := 0) (pc := 57) C dX11_meet_57 rfl ?_
        refine v_istore (lv2 := [(5, .int (0)), (4, .ref (A (22, (x).toNatClampNeg))), (3, .ref (A (22, (u).toNatClampNeg))), (0, .ref (A (0, 0))), (1, .int (u)), (2, .int (x))]) (pc := 58) C dX11_meet_58 (by decide) rfl ?_
        refine v_iload (pc := 60) C dX11_meet_60 0 rfl ?_
        refine v_if_ne (pc := 62) (tgt := 82) C dX11_meet_62 (by decide) (fun c_9 => ?_) (fun c_9 => ?_)
        · skip
          exact absurd c_9 (by decide)
        · skip
          refine v_aload_n (pc := 65) C dX11_meet_65 3 rfl rfl ?_
          refine v_aload_n (pc := 66) C dX11_meet_66 2 rfl rfl ?_
          refine v_callV (pc := 67) C (0, 0) ck_0 rfl (c_X11_isHeadInLog hG ((u).toNatClampNeg) (ok_needUser x_1)) 1 wd_1142 wd_62 wd_1139 wd_1141 wd_26 (by decide +kernel) (by decide) (by decide) rfl ([]) rfl (Nat.le_of_ble_eq_true rfl) (by decide) dX11_meet_67 (fun _ _ _ q => q.elim) (fun v9 A9 h9 hR9 => ?_)
          obtain ⟨rfl, hA9, rfl⟩ := hR9
          obtain rfl := hA9.symm
          refine v_st (k2 := 2) (n2 := 12) (st2 := [.int ((V_X11_isHeadInLog g ((u).toNatClampNeg)))]) rfl rfl rfl ?_
          refine v_if_eq (pc := 70) (tgt := 85) C dX11_meet_70 (by decide) (fun c_10 => ?_) (fun c_10 => ?_)
          · skip
            refine v_aload_n (pc := 85) C dX11_meet_85 2 rfl rfl ?_
            refine v_dup (pc := 86) C dX11_meet_86 rfl ?_
            refine v_get (pc := 87) C (22, (u).toNatClampNeg) (v := .int ((g 24 (u).toNatClampNeg 0))) (ck_22 (g := g) (ok_needUser x_1)) rfl 6 (by decide) inX9 wd_480 rfl rfl dX11_meet_87 ?_
            refine v_iconst (v := 1) (pc := 90) C dX11_meet_90 rfl ?_
            refine v_iadd (pc := 91) C dX11_meet_91 ?_
            refine v_put (pc := 92) C (22, (u).toNatClampNeg) (v := .int (((g 24 (u).toNatClampNeg 0) + 1))) (ck_22 (g := g) (ok_needUser x_1)) rfl 6 (by decide) inX9 tyX9 tyX9_ok nmX9 wd_480 rfl (.inl (Value.int (((g 24 (u).toNatClampNeg 0) + 1)))) rfl (ty := tyX9 6) (by decide +kernel) rfl rfl (Nat.le_of_ble_eq_true rfl) dX11_meet_92 ?_
            refine v_h (h2 := (w (s3 g 24 (u).toNatClampNeg 0 (((g 24 (u).toNatClampNeg 0) + 1))) r)) (u_22_6 (g := g) (ok_needUser x_1)) ?_
            refine v_aload (pc := 95) C dX11_meet_95 1 rfl ?_
            refine v_dup (pc := 97) C dX11_meet_97 rfl ?_
            refine v_get (pc := 98) C (22, (x).toNatClampNeg) (v := .int (((s3 g 24 (u).toNatClampNeg 0 (((g 24 (u).toNatClampNeg 0) + 1))) 24 (x).toNatClampNeg 0))) (ck_22 (g := (s3 g 24 (u).toNatClampNeg 0 (((g 24 (u).toNatClampNeg 0) + 1)))) (ok_needUser x_2)) rfl 6 (by decide) inX9 wd_480 rfl rfl dX11_meet_98 ?_
            refine v_iconst (v := 1) (pc := 101) C dX11_meet_101 rfl ?_
            refine v_iadd (pc := 102) C dX11_meet_102 ?_
            refine v_put (pc := 103) C (22, (x).toNatClampNeg) (v := .int ((((s3 g 24 (u).toNatClampNeg 0 (((g 24 (u).toNatClampNeg 0) + 1))) 24 (x).toNatClampNeg 0) + 1))) (ck_22 (g := (s3 g 24 (u).toNatClampNeg 0 (((g 24 (u).toNatClampNeg 0) + 1)))) (ok_needUser x_2)) rfl 6 (by decide) inX9 tyX9 tyX9_ok nmX9 wd_480 rfl (.inl (Value.int ((((s3 g 24 (u).toNatClampNeg 0 (((g 24 (u).toNatClampNeg 0) + 1))) 24 (x).toNatClampNeg 0) + 1)))) rfl (ty := tyX9 6) (by decide +kernel) rfl rfl (Nat.le_of_ble_eq_true rfl) dX11_meet_103 ?_
            refine v_h (h2 := (w (s3 (s3 g 24 (u).toNatClampNeg 0 (((g 24 (u).toNatClampNeg 0) + 1))) 24 (x).toNatClampNeg 0 ((((s3 g 24 (u).toNatClampNeg 0 (((g 24 (u).toNatClampNeg 0) + 1))) 24 (x).toNatClampNeg 0) + 1))) r)) (u_22_6 (g := (s3 g 24 (u).toNatClampNeg 0 (((g 24 (u).toNatClampNeg 0) + 1)))) (ok_needUser x_2)) ?_
            refine v_bipush (v := 97) (pc := 106) C dX11_meet_106 (by decide) ?_
            exact v_zret (pc := 108) C rfl (by decide) (by decide) dX11_meet_108 ⟨(by rw [X_X11_meet, if_pos x_1, if_pos x_2, if_neg c_3]), (congrArg (fun q => some (Value.int q)) (by show _ = _; rw [V_X11_meet, if_pos x_1, if_pos x_2, if_neg c_3, if_pos c_4, if_neg c_8, if_pos c_10])), rfl, (congrArg (fun q => w q r) (by show _ = _; rw [S_X11_meet, if_pos x_1, if_pos x_2, if_neg c_3, if_pos c_4, if_neg c_8, if_pos c_10]))⟩
          · skip
            refine v_aload_n (pc := 73) C dX11_meet_73 3 rfl rfl ?_
            refine v_aload (pc := 74) C dX11_meet_74 1 rfl ?_
            refine v_callV (pc := 76) C (0, 0) ck_0 rfl (c_X11_isHeadInLog hG ((x).toNatClampNeg) (ok_needUser x_2)) 1 wd_1142 wd_62 wd_1139 wd_1141 wd_26 (by decide +kernel) (by decide) (by decide) rfl ([]) rfl (Nat.le_of_ble_eq_true rfl) (by decide) dX11_meet_76 (fun _ _ _ q => q.elim) (fun v9 A9 h9 hR9 => ?_)
            obtain ⟨rfl, hA9, rfl⟩ := hR9
            obtain rfl := hA9.symm
            refine v_st (k2 := 2) (n2 := 12) (st2 := [.int ((V_X11_isHeadInLog g ((x).toNatClampNeg)))]) rfl rfl rfl ?_
            refine v_if_eq (pc := 79) (tgt := 85) C dX11_meet_79 (by decide) (fun c_11 => ?_) (fun c_11 => ?_)
            · skip
              refine v_aload_n (pc := 85) C dX11_meet_85 2 rfl rfl ?_
              refine v_dup (pc := 86) C dX11_meet_86 rfl ?_
              refine v_get (pc := 87) C (22, (u).toNatClampNeg) (v := .int ((g 24 (u).toNatClampNeg 0))) (ck_22 (g := g) (ok_needUser x_1)) rfl 6 (by decide) inX9 wd_480 rfl rfl dX11_meet_87 ?_
              refine v_iconst (v := 1) (pc := 90) C dX11_meet_90 rfl ?_
              refine v_iadd (pc := 91) C dX11_meet_91 ?_
              refine v_put (pc := 92) C (22, (u).toNatClampNeg) (v := .int (((g 24 (u).toNatClampNeg 0) + 1))) (ck_22 (g := g) (ok_needUser x_1)) rfl 6 (by decide) inX9 tyX9 tyX9_ok nmX9 wd_480 rfl (.inl (Value.int (((g 24 (u).toNatClampNeg 0) + 1)))) rfl (ty := tyX9 6) (by decide +kernel) rfl rfl (Nat.le_of_ble_eq_true rfl) dX11_meet_92 ?_
              refine v_h (h2 := (w (s3 g 24 (u).toNatClampNeg 0 (((g 24 (u).toNatClampNeg 0) + 1))) r)) (u_22_6 (g := g) (ok_needUser x_1)) ?_
              refine v_aload (pc := 95) C dX11_meet_95 1 rfl ?_
              refine v_dup (pc := 97) C dX11_meet_97 rfl ?_
              refine v_get (pc := 98) C (22, (x).toNatClampNeg) (v := .int (((s3 g 24 (u).toNatClampNeg 0 (((g 24 (u).toNatClampNeg 0) + 1))) 24 (x).toNatClampNeg 0))) (ck_22 (g := (s3 g 24 (u).toNatClampNeg 0 (((g 24 (u).toNatClampNeg 0) + 1)))) (ok_needUser x_2)) rfl 6 (by decide) inX9 wd_480 rfl rfl dX11_meet_98 ?_
              refine v_iconst (v := 1) (pc := 101) C dX11_meet_101 rfl ?_
              refine v_iadd (pc := 102) C dX11_meet_102 ?_
              refine v_put (pc := 103) C (22, (x).toNatClampNeg) (v := .int ((((s3 g 24 (u).toNatClampNeg 0 (((g 24 (u).toNatClampNeg 0) + 1))) 24 (x).toNatClampNeg 0) + 1))) (ck_22 (g := (s3 g 24 (u).toNatClampNeg 0 (((g 24 (u).toNatClampNeg 0) + 1)))) (ok_needUser x_2)) rfl 6 (by decide) inX9 tyX9 tyX9_ok nmX9 wd_480 rfl (.inl (Value.int ((((s3 g 24 (u).toNatClampNeg 0 (((g 24 (u).toNatClampNeg 0) + 1))) 24 (x).toNatClampNeg 0) + 1)))) rfl (ty := tyX9 6) (by decide +kernel) rfl rfl (Nat.le_of_ble_eq_true rfl) dX11_meet_103 ?_
              refine v_h (h2 := (w (s3 (s3 g 24 (u).toNatClampNeg 0 (((g 24 (u).toNatClampNeg 0) + 1))) 24 (x).toNatClampNeg 0 ((((s3 g 24 (u).toNatClampNeg 0 (((g 24 (u).toNatClampNeg 0) + 1))) 24 (x).toNatClampNeg 0) + 1))) r)) (u_22_6 (g := (s3 g 24 (u).toNatClampNeg 0 (((g 24 (u).toNatClampNeg 0) + 1)))) (ok_needUser x_2)) ?_
              refine v_bipush (v := 97) (pc := 106) C dX11_meet_106 (by decide) ?_
              exact v_zret (pc := 108) C rfl (by decide) (by decide) dX11_meet_108 ⟨(by rw [X_X11_meet, if_pos x_1, if_pos x_2, if_neg c_3]), (congrArg (fun q => some (Value.int q)) (by show _ = _; rw [V_X11_meet, if_pos x_1, if_pos x_2, if_neg c_3, if_pos c_4, if_neg c_8, if_neg c_10, if_pos c_11])), rfl, (congrArg (fun q => w q r) (by show _ = _; rw [S_X11_meet, if_pos x_1, if_pos x_2, if_neg c_3, if_pos c_4, if_neg c_8, if_neg c_10, if_pos c_11]))⟩
            · skip
              refine v_bipush (v := 107) (pc := 82) C dX11_meet_82 (by decide) ?_
              exact v_zret (pc := 84) C rfl (by decide) (by decide) dX11_meet_84 ⟨(by rw [X_X11_meet, if_pos x_1, if_pos x_2, if_neg c_3]), (congrArg (fun q => some (Value.int q)) (by show _ = _; rw [V_X11_meet, if_pos x_1, if_pos x_2, if_neg c_3, if_pos c_4, if_neg c_8, if_neg c_10, if_neg c_11])), rfl, (congrArg (fun q => w q r) (by show _ = _; rw [S_X11_meet, if_pos x_1, if_pos x_2, if_neg c_3, if_pos c_4, if_neg c_8, if_neg c_10, if_neg c_11]))⟩
      · skip
        refine v_iconst (v := 1) (pc := 53) C dX11_meet_53 rfl ?_
        refine v_goto (tgt := 58) (pc := 54) C dX11_meet_54 (by decide) ?_
        refine v_istore (lv2 := [(5, .int (1)), (4, .ref (A (22, (x).toNatClampNeg))), (3, .ref (A (22, (u).toNatClampNeg))), (0, .ref (A (0, 0))), (1, .int (u)), (2, .int (x))]) (pc := 58) C dX11_meet_58 (by decide) rfl ?_
        refine v_iload (pc := 60) C dX11_meet_60 0 rfl ?_
        refine v_if_ne (pc := 62) (tgt := 82) C dX11_meet_62 (by decide) (fun c_12 => ?_) (fun c_12 => ?_)
        · skip
          refine v_bipush (v := 107) (pc := 82) C dX11_meet_82 (by decide) ?_
          exact v_zret (pc := 84) C rfl (by decide) (by decide) dX11_meet_84 ⟨(by rw [X_X11_meet, if_pos x_1, if_pos x_2, if_neg c_3]), (congrArg (fun q => some (Value.int q)) (by show _ = _; rw [V_X11_meet, if_pos x_1, if_pos x_2, if_neg c_3, if_pos c_4, if_pos c_8])), rfl, (congrArg (fun q => w q r) (by show _ = _; rw [S_X11_meet, if_pos x_1, if_pos x_2, if_neg c_3, if_pos c_4, if_pos c_8]))⟩
        · skip
          exact absurd c_12 (by decide)
  · skip
    exact v_throwW (pc := 18) C hnx (cls := "java/lang/IllegalArgumentException") (text := "both are the same") (by decide +kernel) wd_359 wd_72 (by decide +kernel) at_IllegalArgumentException (by decide) (by decide) (by decide) dX11_meet_18 dX11_meet_21 dX11_meet_22 dX11_meet_25 dX11_meet_28 ⟨by rw [show (X_X11_meet g u x) = 2 from (by rw [X_X11_meet, if_pos x_1, if_pos x_2, if_pos c_3])]; decide, by rw [show (X_X11_meet g u x) = 2 from (by rw [X_X11_meet, if_pos x_1, if_pos x_2, if_pos c_3])]; rfl, rfl, (congrArg (fun q => w q r) (by show _ = _; rw [S_X11_meet, if_pos x_1, if_pos x_2, if_pos c_3]))⟩
def X_X11_goAway (g : vS) (u : Int32) : Nat := (if (X_X11_needUser g (u)) = 0 then (if (g 21 (u).toNatClampNeg 0) = 0 then 0 else 3) else (X_X11_needUser g (u)))
def V_X11_goAway (g : vS) (u : Int32) : Int32 := (if (X_X11_needUser g (u)) = 0 then (if (g 21 (u).toNatClampNeg 0) = 0 then (V_X11_usersAway (s3 g 21 (u).toNatClampNeg 0 (1))) else 0) else 0)
def S_X11_goAway (g : vS) (u : Int32) : vS := (if (X_X11_needUser g (u)) = 0 then (if (g 21 (u).toNatClampNeg 0) = 0 then (s3 g 21 (u).toNatClampNeg 0 (1)) else g) else g)
theorem F_X11_goAway {g : vS} {u : Int32} {c i j : Nat} (h21 : c ≠ 21) : S_X11_goAway g u c i j = g c i j := by
  unfold S_X11_goAway
  (repeat' split) <;> first | rfl | ((simp only [s3_k h21]) <;> first | done | rfl)
set_option maxHeartbeats 4000000 in
set_option maxRecDepth 100000 in
theorem c_X11_goAway {G : vG} (hG : G.1.stackTraces = false) {A : vN → Nat} {g : vS} {r : vH} (u : Int32)  : vCt G yX11_goAway cX11_goAway 3 (some .int) 1 [.ref (A (0, 0)), .int (u)] A (w g r) (fun v A2 h2 => X_X11_goAway g u = 0 ∧ v = some (.int (V_X11_goAway g u)) ∧ A2 = A ∧ h2 = w (S_X11_goAway g u) r) (fun cls A2 h2 => X_X11_goAway g u ≠ 0 ∧ cls = vEx (X_X11_goAway g u) ∧ A2 = A ∧ h2 = w (S_X11_goAway g u) r) 2 12 := by
  refine v_of hG (by decide +kernel) (Nat.le_of_ble_eq_true rfl) (lv := [(0, .ref (A (0, 0))), (1, .int (u))]) rfl (fun X C hnx => ?_)
  have C : vC G X cX11_goAway 3 RX11 (some .int) "goAway" 1 2 12 := C
  refine v_aload_n (pc := 0) C dX11_goAway_0 0 rfl rfl ?_
  refine v_iload_n (pc := 1) C dX11_goAway_1 1 rfl rfl ?_
  refine v_callV (pc := 2) C (0, 0) ck_0 rfl (c_X11_needUser hG (u) ) 1 wd_513 wd_62 wd_510 wd_512 wd_5 (by decide +kernel) (by decide) (by decide) rfl ([]) rfl (Nat.le_of_ble_eq_true rfl) (by decide) dX11_goAway_2 (fun cls9 A9 h9 hE9 => by obtain ⟨q9, rfl, rfl, rfl⟩ := hE9; exact v_out C hnx ⟨(by rw [show (X_X11_goAway g u) = (X_X11_needUser g (u)) from (by rw [X_X11_goAway, if_neg q9])]; exact q9), (by rw [show (X_X11_goAway g u) = (X_X11_needUser g (u)) from (by rw [X_X11_goAway, if_neg q9])]), rfl, (congrArg (fun q => w q r) (by show _ = _; rw [S_X11_goAway, if_neg q9]))⟩ (by decide) (by decide)) (fun v9 A9 h9 hR9 => ?_)
  obtain ⟨x_1, rfl, hA9, rfl⟩ := hR9
  obtain rfl := hA9.symm
  refine v_st (k2 := 1) (n2 := 6) (st2 := [.ref (A (22, (u).toNatClampNeg))]) rfl rfl rfl ?_
  refine v_astore_n (lv2 := [(2, .ref (A (22, (u).toNatClampNeg))), (0, .ref (A (0, 0))), (1, .int (u))]) (pc := 5) C dX11_goAway_5 rfl (by decide) rfl ?_
  refine v_aload_n (pc := 6) C dX11_goAway_6 0 rfl rfl ?_
  refine v_get (pc := 7) C (22, (u).toNatClampNeg) (v := .int ((g 21 (u).toNatClampNeg 0))) (ck_22 (g := g) (ok_needUser x_1)) rfl 3 (by decide) inX9 wd_477 rfl rfl dX11_goAway_7 ?_
  refine v_if_eq (pc := 10) (tgt := 24) C dX11_goAway_10 (by decide) (fun c_2 => ?_) (fun c_2 => ?_)
  · skip
    refine v_aload_n (pc := 24) C dX11_goAway_24 0 rfl rfl ?_
    refine v_iconst (v := 1) (pc := 25) C dX11_goAway_25 rfl ?_
    refine v_put (pc := 26) C (22, (u).toNatClampNeg) (v := .int (1)) (ck_22 (g := g) (ok_needUser x_1)) rfl 3 (by decide) inX9 tyX9 tyX9_ok nmX9 wd_477 rfl (.inl (Value.int (1))) rfl (ty := tyX9 3) (by decide +kernel) rfl rfl (Nat.le_of_ble_eq_true rfl) dX11_goAway_26 ?_
    refine v_h (h2 := (w (s3 g 21 (u).toNatClampNeg 0 (1)) r)) (u_22_3 (g := g) (ok_needUser x_1)) ?_
    refine v_aload_n (pc := 29) C dX11_goAway_29 1 rfl rfl ?_
    refine v_callV (pc := 30) C (0, 0) ck_0 rfl (c_X11_usersAway hG  ) 0 wd_1238 wd_62 wd_1235 wd_1237 wd_28 (by decide +kernel) (by decide) (by decide) rfl ([]) rfl (Nat.le_of_ble_eq_true rfl) (by decide) dX11_goAway_30 (fun _ _ _ q => q.elim) (fun v9 A9 h9 hR9 => ?_)
    obtain ⟨rfl, hA9, rfl⟩ := hR9
    obtain rfl := hA9.symm
    refine v_st (k2 := 1) (n2 := 6) (st2 := [.int ((V_X11_usersAway (s3 g 21 (u).toNatClampNeg 0 (1))))]) rfl rfl rfl ?_
    exact v_iret (pc := 33) C (by decide) (by decide) dX11_goAway_33 ⟨(by rw [X_X11_goAway, if_pos x_1, if_pos c_2]), (congrArg (fun q => some (Value.int q)) (by show _ = _; rw [V_X11_goAway, if_pos x_1, if_pos c_2])), rfl, (congrArg (fun q => w q r) (by show _ = _; rw [S_X11_goAway, if_pos x_1, if_pos c_2]))⟩
  · skip
    exact v_throwW (pc := 13) C hnx (cls := "java/lang/IllegalStateException") (text := "the user is away") (by decide +kernel) wd_431 wd_73 (by decide +kernel) at_IllegalStateException (by decide) (by decide) (by decide) dX11_goAway_13 dX11_goAway_16 dX11_goAway_17 dX11_goAway_20 dX11_goAway_23 ⟨by rw [show (X_X11_goAway g u) = 3 from (by rw [X_X11_goAway, if_pos x_1, if_neg c_2])]; decide, by rw [show (X_X11_goAway g u) = 3 from (by rw [X_X11_goAway, if_pos x_1, if_neg c_2])]; rfl, rfl, (congrArg (fun q => w q r) (by show _ = _; rw [S_X11_goAway, if_pos x_1, if_neg c_2]))⟩
