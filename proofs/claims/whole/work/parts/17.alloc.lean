def X_X11_addUser (g : vS) (x : Int32) : Nat := (if x < 0 then 2 else (if x ≤ 9999 then (if (g 0 0 0) < 0 then 3 else (if (g 0 0 0) < 6 then 0 else 3)) else 2))
def V_X11_addUser (g : vS) (x : Int32) : Int32 := (if x < 0 then 0 else (if x ≤ 9999 then (if (g 0 0 0) < 0 then 0 else (if (g 0 0 0) < 6 then (((g 0 0 0) + 1) - 1) else 0)) else 0))
def S_X11_addUser (g : vS) (x : Int32) : vS := (if x < 0 then g else (if x ≤ 9999 then (if (g 0 0 0) < 0 then g else (if (g 0 0 0) < 6 then (s3 (Z_user g (((g 0 0 0)).toNatClampNeg) (g 0 0 0) (x)) 0 0 0 (((g 0 0 0) + 1))) else g)) else g))
theorem F_X11_addUser {g : vS} {x : Int32} {c i j : Nat} (h0 : c ≠ 0) (h20 : c ≠ 20) (h21 : c ≠ 21) (h22 : c ≠ 22) (h23 : c ≠ 23) (h24 : c ≠ 24) (h25 : c ≠ 25) (h26 : c ≠ 26) (h27 : c ≠ 27) (h28 : c ≠ 28) (h30 : c ≠ 30) (h31 : c ≠ 31) (h32 : c ≠ 32) (h103 : c ≠ 103) : S_X11_addUser g x c i j = g c i j := by
  unfold S_X11_addUser
  (repeat' split) <;> first | rfl | ((simp only [s3_k h0, s3_k h20, s3_k h21, s3_k h22, s3_k h23, s3_k h24, s3_k h25, s3_k h26, s3_k h27, s3_k h28, s3_k h30, s3_k h31, s3_k h32, s3_k h103, F_Zuser h20 h21 h22 h23 h24 h25 h26 h27 h28 h30 h31 h32 h103]) <;> first | done | rfl)
set_option maxHeartbeats 4000000 in
set_option maxRecDepth 100000 in
theorem c_X11_addUser {G : vG} (hG : G.1.stackTraces = false) {A : vN → Nat} {g : vS} {r : vH} (x : Int32) (hr : vNr r) (hfree : g 103 (g 0 0 0).toNatClampNeg 0 = 0) : vCt G yX11_addUser cX11_addUser 2 (some .int) 2 [.ref (A (0, 0)), .int (x)] A (w g r) (fun v A2 h2 => X_X11_addUser g x = 0 ∧ v = some (.int (V_X11_addUser g x)) ∧ vAs 22 26 A2 A ∧ h2 = w (S_X11_addUser g x) r) (fun cls A2 h2 => X_X11_addUser g x ≠ 0 ∧ cls = vEx (X_X11_addUser g x) ∧ vAs 22 26 A2 A ∧ h2 = w (S_X11_addUser g x) r) 5 43 := by
  refine v_of hG (by decide +kernel) (Nat.le_of_ble_eq_true rfl) (lv := [(0, .ref (A (0, 0))), (1, .int (x))]) rfl (fun X C hnx => ?_)
  have C : vC G X cX11_addUser 2 RX11 (some .int) "addUser" 2 5 43 := C
  refine v_iload_n (pc := 0) C dX11_addUser_0 1 rfl rfl ?_
  refine v_if_lt (pc := 1) (tgt := 11) C dX11_addUser_1 (by decide) (fun c_1 => ?_) (fun c_1 => ?_)
  · skip
    exact v_throw (pc := 11) C hnx (cls := "java/lang/IllegalArgumentException") (text := "the secret is out of range") (by decide +kernel) wd_359 wd_72 (by decide +kernel) at_IllegalArgumentException (by decide) (by decide) (by decide) dX11_addUser_11 dX11_addUser_14 dX11_addUser_15 dX11_addUser_17 dX11_addUser_20 ⟨by rw [show (X_X11_addUser g x) = 2 from (by rw [X_X11_addUser, if_pos c_1])]; decide, by rw [show (X_X11_addUser g x) = 2 from (by rw [X_X11_addUser, if_pos c_1])]; rfl, vAs_r, (congrArg (fun q => w q r) (by show _ = _; rw [S_X11_addUser, if_pos c_1]))⟩
  · skip
    refine v_iload_n (pc := 4) C dX11_addUser_4 1 rfl rfl ?_
    refine v_sipush (v := 9999) (pc := 5) C dX11_addUser_5 (by decide) ?_
    refine v_icmp_le (pc := 8) (tgt := 21) C dX11_addUser_8 (by decide) (fun c_2 => ?_) (fun c_2 => ?_)
    · skip
      refine v_aload_n (pc := 21) C dX11_addUser_21 0 rfl rfl ?_
      refine v_get (pc := 22) C (0, 0) (v := .int ((g 0 0 0))) ck_0 rfl 8 (by decide) inX11 wd_228 rfl rfl dX11_addUser_22 ?_
      refine v_if_lt (pc := 25) (tgt := 40) C dX11_addUser_25 (by decide) (fun c_3 => ?_) (fun c_3 => ?_)
      · skip
        exact v_throw (pc := 40) C hnx (cls := "java/lang/IllegalStateException") (text := "there are 6 users") (by decide +kernel) wd_431 wd_73 (by decide +kernel) at_IllegalStateException (by decide) (by decide) (by decide) dX11_addUser_40 dX11_addUser_43 dX11_addUser_44 dX11_addUser_46 dX11_addUser_49 ⟨by rw [show (X_X11_addUser g x) = 3 from (by rw [X_X11_addUser, if_neg c_1, if_pos c_2, if_pos c_3])]; decide, by rw [show (X_X11_addUser g x) = 3 from (by rw [X_X11_addUser, if_neg c_1, if_pos c_2, if_pos c_3])]; rfl, vAs_r, (congrArg (fun q => w q r) (by show _ = _; rw [S_X11_addUser, if_neg c_1, if_pos c_2, if_pos c_3]))⟩
      · skip
        refine v_aload_n (pc := 28) C dX11_addUser_28 0 rfl rfl ?_
        refine v_get (pc := 29) C (0, 0) (v := .int ((g 0 0 0))) ck_0 rfl 8 (by decide) inX11 wd_228 rfl rfl dX11_addUser_29 ?_
        refine v_aload_n (pc := 32) C dX11_addUser_32 0 rfl rfl ?_
        refine v_get (pc := 33) C (0, 0) (v := .ref (A (1, 0))) ck_0 rfl 0 (by decide) inX11 wd_220 rfl rfl dX11_addUser_33 ?_
        refine v_alen (pc := 36) C (1, 0) (v := 6) ck_1 rfl (by decide) dX11_addUser_36 ?_
        refine v_icmp_lt (pc := 37) (tgt := 50) C dX11_addUser_37 (by decide) (fun c_4 => ?_) (fun c_4 => ?_)
        · skip
          refine v_aload_n (pc := 50) C dX11_addUser_50 0 rfl rfl ?_
          refine v_get (pc := 51) C (0, 0) (v := .ref (A (1, 0))) ck_0 rfl 0 (by decide) inX11 wd_220 rfl rfl dX11_addUser_51 ?_
          refine v_aload_n (pc := 54) C dX11_addUser_54 0 rfl rfl ?_
          refine v_get (pc := 55) C (0, 0) (v := .int ((g 0 0 0))) ck_0 rfl 8 (by decide) inX11 wd_228 rfl rfl dX11_addUser_55 ?_
          refine v_new (pc := 58) C (22, ((g 0 0 0)).toNatClampNeg) (vNo_22 (g := g) (r := r) hfree) (fun a9 m9 f9 => (vNm_22 (G := G) (g := g) (r := r) hfree hr) _ a9 m9 f9) (ci := 10) rfl inX9 tyX9 tyX9_ok wd_98 wd_447 wd_74 [.int (0), .int (0), .null, .int (0), .int (0), .int (0), .int (0), .int (0), .int (0)] (fun j hj => match j, hj with | 0, _ => rfl | 1, _ => rfl | 2, _ => rfl | 3, _ => rfl | 4, _ => rfl | 5, _ => rfl | 6, _ => rfl | 7, _ => rfl | 8, _ => rfl | n9 + 9, hj => absurd hj (by omega)) (by decide) (by decide) dX11_addUser_58 (fun A_5 hA_5 => ?_)
          refine v_h (h2 := (vup (w g r) (22, ((g 0 0 0)).toNatClampNeg) (vO 10 [.inl (Value.int (0)), .inl (Value.int (0)), .inl (Value.null), .inl (Value.int (0)), .inl (Value.int (0)), .inl (Value.int (0)), .inl (Value.int (0)), .inl (Value.int (0)), .inl (Value.int (0))]))) rfl ?_
          refine v_st (k2 := 1) (n2 := 9) (st2 := [.ref (A_5 (22, ((g 0 0 0)).toNatClampNeg)), .int ((g 0 0 0)), .ref (A (1, 0))]) rfl rfl rfl ?_
          refine v_lve (lv2 := [(0, .ref (A_5 (0, 0))), (1, .int (x))]) (by rw [(hA_5 (0, 0) (vne_1 (by decide)))]) ?_
          refine v_st (k2 := 1) (n2 := 9) (st2 := [.ref (A_5 (22, ((g 0 0 0)).toNatClampNeg)), .int ((g 0 0 0)), .ref (A_5 (1, 0))]) rfl rfl (by rw [(hA_5 (1, 0) (vne_1 (by decide)))]) ?_
          refine v_dup (pc := 61) C dX11_addUser_61 rfl ?_
          refine v_aload_n (pc := 62) C dX11_addUser_62 0 rfl rfl ?_
          refine v_get (pc := 63) C (0, 0) (v := .int ((g 0 0 0))) ((vup_n (vne_1 (by decide))).trans ck_0) rfl 8 (by decide) inX11 wd_228 rfl rfl dX11_addUser_63 ?_
          refine v_iload_n (pc := 66) C dX11_addUser_66 1 rfl rfl ?_
          refine v_callI (pc := 67) C (c_X9_init hG (h := (vup (w g r) (22, ((g 0 0 0)).toNatClampNeg) (vO 10 [.inl (Value.int (0)), .inl (Value.int (0)), .inl (Value.null), .inl (Value.int (0)), .inl (Value.int (0)), .inl (Value.int (0)), .inl (Value.int (0)), .inl (Value.int (0)), .inl (Value.int (0))]))) (((g 0 0 0)).toNatClampNeg) ((g 0 0 0)) (x) vup_s ((vup_n (vne_1 (by decide))).trans (vNo_23 (g := g) (r := r) hfree)) ((vup_n (vne_1 (by decide))).trans (vNo_24 (g := g) (r := r) hfree)) ((vup_n (vne_1 (by decide))).trans (vNo_25 (g := g) (r := r) hfree)) ((vup_n (vne_1 (by decide))).trans (vNo_26 (g := g) (r := r) hfree)) (vNm_up (vNm_23 (G := G) (g := g) (r := r) hfree hr) (fun _ _ => rfl)) (vNm_up (vNm_24 (G := G) (g := g) (r := r) hfree hr) (fun _ _ => rfl)) (vNm_up (vNm_25 (G := G) (g := g) (r := r) hfree hr) (fun _ _ => rfl)) (vNm_up (vNm_26 (G := G) (g := g) (r := r) hfree hr) (fun _ _ => rfl))) 2 wd_450 wd_74 wd_448 wd_449 rfl (by decide +kernel) (by decide) (by decide) rfl ([.ref (A_5 (22, ((g 0 0 0)).toNatClampNeg)), .int ((g 0 0 0)), .ref (A_5 (1, 0))]) rfl (Nat.le_of_ble_eq_true rfl) (by decide) dX11_addUser_67 (fun v9 A_6 h9 hR9 => ?_)
          obtain ⟨rfl, hA_6, rfl⟩ := hR9
          refine v_st (k2 := 5) (n2 := 43) (st2 := [.ref (A_5 (22, ((g 0 0 0)).toNatClampNeg)), .int ((g 0 0 0)), .ref (A_5 (1, 0))]) rfl rfl rfl ?_
          refine v_lve (lv2 := [(0, .ref (A_6 (0, 0))), (1, .int (x))]) (by rw [(hA_6 (0, 0) (Or.inl (by show 0 < 23; decide)))]) ?_
          refine v_st (k2 := 5) (n2 := 43) (st2 := [.ref (A_6 (22, ((g 0 0 0)).toNatClampNeg)), .int ((g 0 0 0)), .ref (A_6 (1, 0))]) rfl rfl (by rw [(hA_6 (1, 0) (Or.inl (by show 1 < 23; decide))), (hA_6 (22, ((g 0 0 0)).toNatClampNeg) (Or.inl (by show 22 < 23; decide)))]) ?_
          refine v_aast (pc := 70) C (1, 0) (22, ((g 0 0 0)).toNatClampNeg) (((HF_X9_init (h := (vup (w g r) (22, ((g 0 0 0)).toNatClampNeg) (vO 10 [.inl (Value.int (0)), .inl (Value.int (0)), .inl (Value.null), .inl (Value.int (0)), .inl (Value.int (0)), .inl (Value.int (0)), .inl (Value.int (0)), .inl (Value.int (0)), .inl (Value.int (0))]))) (((g 0 0 0)).toNatClampNeg) ((g 0 0 0)) (x)) (by show 1 ≠ 22; decide) (by show 1 ≠ 23; decide) (by show 1 ≠ 24; decide) (by show 1 ≠ 25; decide) (by show 1 ≠ 26; decide)).trans ((vup_n (vne_1 (by decide))).trans ck_1)) (HK_X9_init_22 (h := (vup (w g r) (22, ((g 0 0 0)).toNatClampNeg) (vO 10 [.inl (Value.int (0)), .inl (Value.int (0)), .inl (Value.null), .inl (Value.int (0)), .inl (Value.int (0)), .inl (Value.int (0)), .inl (Value.int (0)), .inl (Value.int (0)), .inl (Value.int (0))]))) (((g 0 0 0)).toNatClampNeg) ((g 0 0 0)) (x)) rfl rfl (by (try simp only [Int32.le_iff_toInt_le, Int32.lt_iff_toInt_lt, ← Int32.toInt_inj, vp_in_iff, Int32.reduceToInt] at c_1 c_2 c_3 c_4 ⊢) <;> omega) dX11_addUser_70 ?_
          refine v_less (h2 := (w (Z_user g (((g 0 0 0)).toNatClampNeg) (g 0 0 0) (x)) r)) (z_user) ?_
          refine v_aload_n (pc := 71) C dX11_addUser_71 0 rfl rfl ?_
          refine v_dup (pc := 72) C dX11_addUser_72 rfl ?_
          refine v_get (pc := 73) C (0, 0) (v := .int ((g 0 0 0))) ck_0 rfl 8 (by decide) inX11 wd_228 rfl (congrArg Value.int (F_Zuser (by decide) (by decide) (by decide) (by decide) (by decide) (by decide) (by decide) (by decide) (by decide) (by decide) (by decide) (by decide) (by decide))) dX11_addUser_73 ?_
          refine v_iconst (v := 1) (pc := 76) C dX11_addUser_76 rfl ?_
          refine v_iadd (pc := 77) C dX11_addUser_77 ?_
          refine v_put (pc := 78) C (0, 0) (v := .int (((g 0 0 0) + 1))) ck_0 rfl 8 (by decide) inX11 tyX11 tyX11_ok nmX11 wd_228 rfl (.inl (Value.int (((g 0 0 0) + 1)))) rfl (ty := tyX11 8) (by decide +kernel) rfl rfl (Nat.le_of_ble_eq_true rfl) dX11_addUser_78 ?_
          refine v_h (h2 := (w (s3 (Z_user g (((g 0 0 0)).toNatClampNeg) (g 0 0 0) (x)) 0 0 0 (((g 0 0 0) + 1))) r)) (u_0_8) ?_
          refine v_aload_n (pc := 81) C dX11_addUser_81 0 rfl rfl ?_
          refine v_get (pc := 82) C (0, 0) (v := .int (((g 0 0 0) + 1))) ck_0 rfl 8 (by decide) inX11 wd_228 rfl (congrArg Value.int (s3_s)) dX11_addUser_82 ?_
          refine v_iconst (v := 1) (pc := 85) C dX11_addUser_85 rfl ?_
          refine v_isub (pc := 86) C dX11_addUser_86 ?_
          exact v_iret (pc := 87) C (by decide) (by decide) dX11_addUser_87 ⟨(by rw [X_X11_addUser, if_neg c_1, if_pos c_2, if_neg c_3, if_pos c_4]), (congrArg (fun q => some (Value.int q)) (by show _ = _; rw [V_X11_addUser, if_neg c_1, if_pos c_2, if_neg c_3, if_pos c_4])), (vAs_t (vAs_w hA_6 (by decide) (by decide)) (vAs_1 hA_5 (Nat.le_of_ble_eq_true rfl) (Nat.le_of_ble_eq_true rfl))), (congrArg (fun q => w q r) (by show _ = _; rw [S_X11_addUser, if_neg c_1, if_pos c_2, if_neg c_3, if_pos c_4]))⟩
        · skip
          exact v_throw (pc := 40) C hnx (cls := "java/lang/IllegalStateException") (text := "there are 6 users") (by decide +kernel) wd_431 wd_73 (by decide +kernel) at_IllegalStateException (by decide) (by decide) (by decide) dX11_addUser_40 dX11_addUser_43 dX11_addUser_44 dX11_addUser_46 dX11_addUser_49 ⟨by rw [show (X_X11_addUser g x) = 3 from (by rw [X_X11_addUser, if_neg c_1, if_pos c_2, if_neg c_3, if_neg c_4])]; decide, by rw [show (X_X11_addUser g x) = 3 from (by rw [X_X11_addUser, if_neg c_1, if_pos c_2, if_neg c_3, if_neg c_4])]; rfl, vAs_r, (congrArg (fun q => w q r) (by show _ = _; rw [S_X11_addUser, if_neg c_1, if_pos c_2, if_neg c_3, if_neg c_4]))⟩
    · skip
      exact v_throw (pc := 11) C hnx (cls := "java/lang/IllegalArgumentException") (text := "the secret is out of range") (by decide +kernel) wd_359 wd_72 (by decide +kernel) at_IllegalArgumentException (by decide) (by decide) (by decide) dX11_addUser_11 dX11_addUser_14 dX11_addUser_15 dX11_addUser_17 dX11_addUser_20 ⟨by rw [show (X_X11_addUser g x) = 2 from (by rw [X_X11_addUser, if_neg c_1, if_neg c_2])]; decide, by rw [show (X_X11_addUser g x) = 2 from (by rw [X_X11_addUser, if_neg c_1, if_neg c_2])]; rfl, vAs_r, (congrArg (fun q => w q r) (by show _ = _; rw [S_X11_addUser, if_neg c_1, if_neg c_2]))⟩
def X_X11_addGroup (g : vS) (u : Int32) (x : Int32) : Nat := (if (X_X11_needUser g (u)) = 0 then (if x < 1 then 2 else (if x ≤ 40 then (if (g 1 0 0) < 0 then 3 else (if (g 1 0 0) < 5 then 0 else 3)) else 2)) else (X_X11_needUser g (u)))
def V_X11_addGroup (g : vS) (u : Int32) (x : Int32) : Int32 := (if (X_X11_needUser g (u)) = 0 then (if x < 1 then 0 else (if x ≤ 40 then (if (g 1 0 0) < 0 then 0 else (if (g 1 0 0) < 5 then ((Z_group g (((g 1 0 0)).toNatClampNeg) (g 1 0 0) (u) (x)) 48 ((g 1 0 0)).toNatClampNeg 0) else 0)) else 0)) else 0)
def S_X11_addGroup (g : vS) (u : Int32) (x : Int32) : vS := (if (X_X11_needUser g (u)) = 0 then (if x < 1 then g else (if x ≤ 40 then (if (g 1 0 0) < 0 then g else (if (g 1 0 0) < 5 then (S_X2_noteJoined (S_X3_takeIn (s3 (Z_group g (((g 1 0 0)).toNatClampNeg) (g 1 0 0) (u) (x)) 1 0 0 (((g 1 0 0) + 1))) (((g 1 0 0)).toNatClampNeg) (u)) (((Z_group g (((g 1 0 0)).toNatClampNeg) (g 1 0 0) (u) (x)) 48 ((g 1 0 0)).toNatClampNeg 0)) (u)) else g)) else g)) else g)
theorem F_X11_addGroup {g : vS} {u : Int32} {x : Int32} {c i j : Nat} (h1 : c ≠ 1) (h11 : c ≠ 11) (h40 : c ≠ 40) (h41 : c ≠ 41) (h42 : c ≠ 42) (h43 : c ≠ 43) (h44 : c ≠ 44) (h46 : c ≠ 46) (h47 : c ≠ 47) (h48 : c ≠ 48) (h85 : c ≠ 85) (h86 : c ≠ 86) (h104 : c ≠ 104) : S_X11_addGroup g u x c i j = g c i j := by
  unfold S_X11_addGroup
  (repeat' split) <;> first | rfl | ((simp only [s3_k h1, s3_k h11, s3_k h40, s3_k h41, s3_k h42, s3_k h43, s3_k h44, s3_k h46, s3_k h47, s3_k h48, s3_k h85, s3_k h86, s3_k h104, F_X2_noteJoined h11 h85 h86, F_X3_takeIn h43 h44, F_Zgroup h40 h41 h42 h43 h44 h46 h47 h48 h104]) <;> first | done | rfl)
set_option maxHeartbeats 4000000 in
set_option maxRecDepth 100000 in
theorem c_X11_addGroup {G : vG} (hG : G.1.stackTraces = false) {A : vN → Nat} {g : vS} {r : vH} (u : Int32) (x : Int32) (hr : vNr r) (hfree : g 104 (g 1 0 0).toNatClampNeg 0 = 0) (hI : vI1 g) : vCt G yX11_addGroup cX11_addGroup 4 (some .int) 3 [.ref (A (0, 0)), .int (u), .int (x)] A (w g r) (fun v A2 h2 => X_X11_addGroup g u x = 0 ∧ v = some (.int (V_X11_addGroup g u x)) ∧ vAs 27 29 A2 A ∧ h2 = w (S_X11_addGroup g u x) r) (fun cls A2 h2 => X_X11_addGroup g u x ≠ 0 ∧ cls = vEx (X_X11_addGroup g u x) ∧ vAs 27 29 A2 A ∧ h2 = w (S_X11_addGroup g u x) r) 4 26 := by
  refine v_of hG (by decide +kernel) (Nat.le_of_ble_eq_true rfl) (lv := [(0, .ref (A (0, 0))), (1, .int (u)), (2, .int (x))]) rfl (fun X C hnx => ?_)
  have C : vC G X cX11_addGroup 4 RX11 (some .int) "addGroup" 3 4 26 := C
  refine v_aload_n (pc := 0) C dX11_addGroup_0 0 rfl rfl ?_
  refine v_iload_n (pc := 1) C dX11_addGroup_1 1 rfl rfl ?_
  refine v_callV (pc := 2) C (0, 0) ck_0 rfl (c_X11_needUser hG (u) ) 1 wd_513 wd_62 wd_510 wd_512 wd_5 (by decide +kernel) (by decide) (by decide) rfl ([]) rfl (Nat.le_of_ble_eq_true rfl) (by decide) dX11_addGroup_2 (fun cls9 A9 h9 hE9 => by obtain ⟨q9, rfl, rfl, rfl⟩ := hE9; exact v_out C hnx ⟨(by rw [show (X_X11_addGroup g u x) = (X_X11_needUser g (u)) from (by rw [X_X11_addGroup, if_neg q9])]; exact q9), (by rw [show (X_X11_addGroup g u x) = (X_X11_needUser g (u)) from (by rw [X_X11_addGroup, if_neg q9])]), vAs_r, (congrArg (fun q => w q r) (by show _ = _; rw [S_X11_addGroup, if_neg q9]))⟩ (by decide) (by decide)) (fun v9 A9 h9 hR9 => ?_)
  obtain ⟨x_1, rfl, hA9, rfl⟩ := hR9
  obtain rfl := hA9.symm
  refine v_st (k2 := 1) (n2 := 6) (st2 := [.ref (A (22, (u).toNatClampNeg))]) rfl rfl rfl ?_
  refine v_pop (pc := 5) C dX11_addGroup_5 rfl ?_
  refine v_iload_n (pc := 6) C dX11_addGroup_6 2 rfl rfl ?_
  refine v_iconst (v := 1) (pc := 7) C dX11_addGroup_7 rfl ?_
  refine v_icmp_lt (pc := 8) (tgt := 17) C dX11_addGroup_8 (by decide) (fun c_2 => ?_) (fun c_2 => ?_)
  · skip
    exact v_throw (pc := 17) C hnx (cls := "java/lang/IllegalArgumentException") (text := "the quota is out of range") (by decide +kernel) wd_359 wd_72 (by decide +kernel) at_IllegalArgumentException (by decide) (by decide) (by decide) dX11_addGroup_17 dX11_addGroup_20 dX11_addGroup_21 dX11_addGroup_23 dX11_addGroup_26 ⟨by rw [show (X_X11_addGroup g u x) = 2 from (by rw [X_X11_addGroup, if_pos x_1, if_pos c_2])]; decide, by rw [show (X_X11_addGroup g u x) = 2 from (by rw [X_X11_addGroup, if_pos x_1, if_pos c_2])]; rfl, vAs_r, (congrArg (fun q => w q r) (by show _ = _; rw [S_X11_addGroup, if_pos x_1, if_pos c_2]))⟩
  · skip
    refine v_iload_n (pc := 11) C dX11_addGroup_11 2 rfl rfl ?_
    refine v_bipush (v := 40) (pc := 12) C dX11_addGroup_12 (by decide) ?_
    refine v_icmp_le (pc := 14) (tgt := 27) C dX11_addGroup_14 (by decide) (fun c_3 => ?_) (fun c_3 => ?_)
    · skip
      refine v_aload_n (pc := 27) C dX11_addGroup_27 0 rfl rfl ?_
      refine v_get (pc := 28) C (0, 0) (v := .int ((g 1 0 0))) ck_0 rfl 9 (by decide) inX11 wd_229 rfl rfl dX11_addGroup_28 ?_
      refine v_if_lt (pc := 31) (tgt := 46) C dX11_addGroup_31 (by decide) (fun c_4 => ?_) (fun c_4 => ?_)
      · skip
        exact v_throw (pc := 46) C hnx (cls := "java/lang/IllegalStateException") (text := "there are 5 groups") (by decide +kernel) wd_431 wd_73 (by decide +kernel) at_IllegalStateException (by decide) (by decide) (by decide) dX11_addGroup_46 dX11_addGroup_49 dX11_addGroup_50 dX11_addGroup_52 dX11_addGroup_55 ⟨by rw [show (X_X11_addGroup g u x) = 3 from (by rw [X_X11_addGroup, if_pos x_1, if_neg c_2, if_pos c_3, if_pos c_4])]; decide, by rw [show (X_X11_addGroup g u x) = 3 from (by rw [X_X11_addGroup, if_pos x_1, if_neg c_2, if_pos c_3, if_pos c_4])]; rfl, vAs_r, (congrArg (fun q => w q r) (by show _ = _; rw [S_X11_addGroup, if_pos x_1, if_neg c_2, if_pos c_3, if_pos c_4]))⟩
      · skip
        refine v_aload_n (pc := 34) C dX11_addGroup_34 0 rfl rfl ?_
        refine v_get (pc := 35) C (0, 0) (v := .int ((g 1 0 0))) ck_0 rfl 9 (by decide) inX11 wd_229 rfl rfl dX11_addGroup_35 ?_
        refine v_aload_n (pc := 38) C dX11_addGroup_38 0 rfl rfl ?_
        refine v_get (pc := 39) C (0, 0) (v := .ref (A (2, 0))) ck_0 rfl 1 (by decide) inX11 wd_221 rfl rfl dX11_addGroup_39 ?_
        refine v_alen (pc := 42) C (2, 0) (v := 5) ck_2 rfl (by decide) dX11_addGroup_42 ?_
        refine v_icmp_lt (pc := 43) (tgt := 56) C dX11_addGroup_43 (by decide) (fun c_5 => ?_) (fun c_5 => ?_)
        · skip
          refine v_new (pc := 56) C (27, ((g 1 0 0)).toNatClampNeg) (vNo_27 (g := g) (r := r) hfree) (fun a9 m9 f9 => (vNm_27 (G := G) (g := g) (r := r) hfree hI hr) _ a9 m9 f9) (ci := 4) rfl inX3 tyX3 tyX3_ok wd_100 wd_532 wd_77 [.int (0), .int (0), .int (0), .int (0), .int (0), .int (0), .null, .null] (fun j hj => match j, hj with | 0, _ => rfl | 1, _ => rfl | 2, _ => rfl | 3, _ => rfl | 4, _ => rfl | 5, _ => rfl | 6, _ => rfl | 7, _ => rfl | n9 + 8, hj => absurd hj (by omega)) (by decide) (by decide) dX11_addGroup_56 (fun A_6 hA_6 => ?_)
          refine v_h (h2 := (vup (w g r) (27, ((g 1 0 0)).toNatClampNeg) (vO 4 [.inl (Value.int (0)), .inl (Value.int (0)), .inl (Value.int (0)), .inl (Value.int (0)), .inl (Value.int (0)), .inl (Value.int (0)), .inl (Value.null), .inl (Value.null)]))) rfl ?_
          refine v_st (k2 := 2) (n2 := 14) (st2 := [.ref (A_6 (27, ((g 1 0 0)).toNatClampNeg))]) rfl rfl rfl ?_
          refine v_lve (lv2 := [(0, .ref (A_6 (0, 0))), (1, .int (u)), (2, .int (x))]) (by rw [(hA_6 (0, 0) (vne_1 (by decide)))]) ?_
          refine v_dup (pc := 59) C dX11_addGroup_59 rfl ?_
          refine v_aload_n (pc := 60) C dX11_addGroup_60 0 rfl rfl ?_
          refine v_get (pc := 61) C (0, 0) (v := .int ((g 1 0 0))) ((vup_n (vne_1 (by decide))).trans ck_0) rfl 9 (by decide) inX11 wd_229 rfl rfl dX11_addGroup_61 ?_
          refine v_iload_n (pc := 64) C dX11_addGroup_64 1 rfl rfl ?_
          refine v_iload_n (pc := 65) C dX11_addGroup_65 2 rfl rfl ?_
          refine v_callI (pc := 66) C (c_X3_init hG (h := (vup (w g r) (27, ((g 1 0 0)).toNatClampNeg) (vO 4 [.inl (Value.int (0)), .inl (Value.int (0)), .inl (Value.int (0)), .inl (Value.int (0)), .inl (Value.int (0)), .inl (Value.int (0)), .inl (Value.null), .inl (Value.null)]))) (((g 1 0 0)).toNatClampNeg) ((g 1 0 0)) (u) (x) vup_s ((vup_n (vne_1 (by decide))).trans (vNo_28 (g := g) (r := r) hfree)) ((vup_n (vne_1 (by decide))).trans (vNo_29 (g := g) (r := r) hfree)) (vNm_up (vNm_28 (G := G) (g := g) (r := r) hfree hr) (fun _ _ => rfl)) (vNm_up (vNm_29 (G := G) (g := g) (r := r) hfree hr) (fun _ _ => rfl))) 3 wd_535 wd_77 wd_533 wd_534 rfl (by decide +kernel) (by decide) (by decide) rfl ([.ref (A_6 (27, ((g 1 0 0)).toNatClampNeg))]) rfl (Nat.le_of_ble_eq_true rfl) (by decide) dX11_addGroup_66 (fun v9 A_7 h9 hR9 => ?_)
          obtain ⟨rfl, hA_7, rfl⟩ := hR9
          refine v_st (k2 := 4) (n2 := 26) (st2 := [.ref (A_6 (27, ((g 1 0 0)).toNatClampNeg))]) rfl rfl rfl ?_
          refine v_lve (lv2 := [(0, .ref (A_7 (0, 0))), (1, .int (u)), (2, .int (x))]) (by rw [(hA_7 (0, 0) (Or.inl (by show 0 < 28; decide)))]) ?_
          refine v_st (k2 := 4) (n2 := 26) (st2 := [.ref (A_7 (27, ((g 1 0 0)).toNatClampNeg))]) rfl rfl (by rw [(hA_7 (27, ((g 1 0 0)).toNatClampNeg) (Or.inl (by show 27 < 28; decide)))]) ?_
          refine v_astore_n (lv2 := [(3, .ref (A_7 (27, ((g 1 0 0)).toNatClampNeg))), (0, .ref (A_7 (0, 0))), (1, .int (u)), (2, .int (x))]) (pc := 69) C dX11_addGroup_69 rfl (by decide) rfl ?_
          refine v_aload_n (pc := 70) C dX11_addGroup_70 1 rfl rfl ?_
          refine v_get (pc := 71) C (0, 0) (v := .ref (A_7 (2, 0))) (((HF_X3_init (h := (vup (w g r) (27, ((g 1 0 0)).toNatClampNeg) (vO 4 [.inl (Value.int (0)), .inl (Value.int (0)), .inl (Value.int (0)), .inl (Value.int (0)), .inl (Value.int (0)), .inl (Value.int (0)), .inl (Value.null), .inl (Value.null)]))) (((g 1 0 0)).toNatClampNeg) ((g 1 0 0)) (u) (x)) (by show 0 ≠ 27; decide) (by show 0 ≠ 28; decide) (by show 0 ≠ 29; decide)).trans ((vup_n (vne_1 (by decide))).trans ck_0)) rfl 1 (by decide) inX11 wd_221 rfl rfl dX11_addGroup_71 ?_
          refine v_aload_n (pc := 74) C dX11_addGroup_74 1 rfl rfl ?_
          refine v_get (pc := 75) C (0, 0) (v := .int ((g 1 0 0))) (((HF_X3_init (h := (vup (w g r) (27, ((g 1 0 0)).toNatClampNeg) (vO 4 [.inl (Value.int (0)), .inl (Value.int (0)), .inl (Value.int (0)), .inl (Value.int (0)), .inl (Value.int (0)), .inl (Value.int (0)), .inl (Value.null), .inl (Value.null)]))) (((g 1 0 0)).toNatClampNeg) ((g 1 0 0)) (u) (x)) (by show 0 ≠ 27; decide) (by show 0 ≠ 28; decide) (by show 0 ≠ 29; decide)).trans ((vup_n (vne_1 (by decide))).trans ck_0)) rfl 9 (by decide) inX11 wd_229 rfl rfl dX11_addGroup_75 ?_
          refine v_aload_n (pc := 78) C dX11_addGroup_78 0 rfl rfl ?_
          refine v_aast (pc := 79) C (2, 0) (27, ((g 1 0 0)).toNatClampNeg) (((HF_X3_init (h := (vup (w g r) (27, ((g 1 0 0)).toNatClampNeg) (vO 4 [.inl (Value.int (0)), .inl (Value.int (0)), .inl (Value.int (0)), .inl (Value.int (0)), .inl (Value.int (0)), .inl (Value.int (0)), .inl (Value.null), .inl (Value.null)]))) (((g 1 0 0)).toNatClampNeg) ((g 1 0 0)) (u) (x)) (by show 2 ≠ 27; decide) (by show 2 ≠ 28; decide) (by show 2 ≠ 29; decide)).trans ((vup_n (vne_1 (by decide))).trans ck_2)) (HK_X3_init_27 (h := (vup (w g r) (27, ((g 1 0 0)).toNatClampNeg) (vO 4 [.inl (Value.int (0)), .inl (Value.int (0)), .inl (Value.int (0)), .inl (Value.int (0)), .inl (Value.int (0)), .inl (Value.int (0)), .inl (Value.null), .inl (Value.null)]))) (((g 1 0 0)).toNatClampNeg) ((g 1 0 0)) (u) (x)) rfl rfl (by (try simp only [Int32.le_iff_toInt_le, Int32.lt_iff_toInt_lt, ← Int32.toInt_inj, vp_in_iff, Int32.reduceToInt] at c_2 c_3 c_4 c_5 ⊢) <;> omega) dX11_addGroup_79 ?_
          refine v_less (h2 := (w (Z_group g (((g 1 0 0)).toNatClampNeg) (g 1 0 0) (u) (x)) r)) (z_group) ?_
          refine v_aload_n (pc := 80) C dX11_addGroup_80 1 rfl rfl ?_
          refine v_dup (pc := 81) C dX11_addGroup_81 rfl ?_
          refine v_get (pc := 82) C (0, 0) (v := .int ((g 1 0 0))) ck_0 rfl 9 (by decide) inX11 wd_229 rfl (congrArg Value.int (F_Zgroup (by decide) (by decide) (by decide) (by decide) (by decide) (by decide) (by decide) (by decide) (by decide))) dX11_addGroup_82 ?_
          refine v_iconst (v := 1) (pc := 85) C dX11_addGroup_85 rfl ?_
          refine v_iadd (pc := 86) C dX11_addGroup_86 ?_
          refine v_put (pc := 87) C (0, 0) (v := .int (((g 1 0 0) + 1))) ck_0 rfl 9 (by decide) inX11 tyX11 tyX11_ok nmX11 wd_229 rfl (.inl (Value.int (((g 1 0 0) + 1)))) rfl (ty := tyX11 9) (by decide +kernel) rfl rfl (Nat.le_of_ble_eq_true rfl) dX11_addGroup_87 ?_
          refine v_h (h2 := (w (s3 (Z_group g (((g 1 0 0)).toNatClampNeg) (g 1 0 0) (u) (x)) 1 0 0 (((g 1 0 0) + 1))) r)) (u_0_9) ?_
          refine v_aload_n (pc := 90) C dX11_addGroup_90 0 rfl rfl ?_
          refine v_iload_n (pc := 91) C dX11_addGroup_91 2 rfl rfl ?_
          refine v_callV (pc := 92) C (27, ((g 1 0 0)).toNatClampNeg) (ck_27 (g := (s3 (Z_group g (((g 1 0 0)).toNatClampNeg) (g 1 0 0) (u) (x)) 1 0 0 (((g 1 0 0) + 1)))) zx_group) rfl (c_X3_takeIn hG (((g 1 0 0)).toNatClampNeg) (u) zx_group) 1 wd_572 wd_77 wd_569 wd_570 wd_571 (by decide +kernel) (by decide) (by decide) rfl ([]) rfl (Nat.le_of_ble_eq_true rfl) (by decide) dX11_addGroup_92 (fun _ _ _ q => q.elim) (fun v9 A9 h9 hR9 => ?_)
          obtain ⟨rfl, hA9, rfl⟩ := hR9
          obtain rfl := hA9.symm
          refine v_st (k2 := 4) (n2 := 26) (st2 := []) rfl rfl rfl ?_
          refine v_aload_n (pc := 95) C dX11_addGroup_95 1 rfl rfl ?_
          refine v_get (pc := 96) C (0, 0) (v := .ref (A_7 (7, 0))) ck_0 rfl 4 (by decide) inX11 wd_224 rfl rfl dX11_addGroup_96 ?_
          refine v_aload_n (pc := 99) C dX11_addGroup_99 0 rfl rfl ?_
          refine v_get (pc := 100) C (27, ((g 1 0 0)).toNatClampNeg) (v := .int (((Z_group g (((g 1 0 0)).toNatClampNeg) (g 1 0 0) (u) (x)) 48 ((g 1 0 0)).toNatClampNeg 0))) (ck_27 (g := (S_X3_takeIn (s3 (Z_group g (((g 1 0 0)).toNatClampNeg) (g 1 0 0) (u) (x)) 1 0 0 (((g 1 0 0) + 1))) (((g 1 0 0)).toNatClampNeg) (u))) (vtn ((F_X3_takeIn (by decide) (by decide)).trans (s3_k (by decide))) zx_group)) rfl 0 (by decide) inX3 wd_539 rfl (congrArg Value.int ((F_X3_takeIn (by decide) (by decide)).trans (s3_k (by decide)))) dX11_addGroup_100 ?_
          refine v_iload_n (pc := 103) C dX11_addGroup_103 2 rfl rfl ?_
          refine v_callV (pc := 104) C (7, 0) ck_7 rfl (c_X2_noteJoined hG (((Z_group g (((g 1 0 0)).toNatClampNeg) (g 1 0 0) (u) (x)) 48 ((g 1 0 0)).toNatClampNeg 0)) (u) ) 2 wd_576 wd_64 wd_573 wd_574 wd_575 (by decide +kernel) (by decide) (by decide) rfl ([]) rfl (Nat.le_of_ble_eq_true rfl) (by decide) dX11_addGroup_104 (fun _ _ _ q => q.elim) (fun v9 A9 h9 hR9 => ?_)
          obtain ⟨rfl, hA9, rfl⟩ := hR9
          obtain rfl := hA9.symm
          refine v_st (k2 := 4) (n2 := 26) (st2 := []) rfl rfl rfl ?_
          refine v_aload_n (pc := 107) C dX11_addGroup_107 0 rfl rfl ?_
          refine v_get (pc := 108) C (27, ((g 1 0 0)).toNatClampNeg) (v := .int (((Z_group g (((g 1 0 0)).toNatClampNeg) (g 1 0 0) (u) (x)) 48 ((g 1 0 0)).toNatClampNeg 0))) (ck_27 (g := (S_X2_noteJoined (S_X3_takeIn (s3 (Z_group g (((g 1 0 0)).toNatClampNeg) (g 1 0 0) (u) (x)) 1 0 0 (((g 1 0 0) + 1))) (((g 1 0 0)).toNatClampNeg) (u)) (((Z_group g (((g 1 0 0)).toNatClampNeg) (g 1 0 0) (u) (x)) 48 ((g 1 0 0)).toNatClampNeg 0)) (u))) (vtn ((F_X2_noteJoined (by decide) (by decide) (by decide)).trans ((F_X3_takeIn (by decide) (by decide)).trans (s3_k (by decide)))) zx_group)) rfl 0 (by decide) inX3 wd_539 rfl (congrArg Value.int ((F_X2_noteJoined (by decide) (by decide) (by decide)).trans ((F_X3_takeIn (by decide) (by decide)).trans (s3_k (by decide))))) dX11_addGroup_108 ?_
          exact v_iret (pc := 111) C (by decide) (by decide) dX11_addGroup_111 ⟨(by rw [X_X11_addGroup, if_pos x_1, if_neg c_2, if_pos c_3, if_neg c_4, if_pos c_5]), (congrArg (fun q => some (Value.int q)) (by show _ = _; rw [V_X11_addGroup, if_pos x_1, if_neg c_2, if_pos c_3, if_neg c_4, if_pos c_5])), (vAs_t (vAs_w hA_7 (by decide) (by decide)) (vAs_1 hA_6 (Nat.le_of_ble_eq_true rfl) (Nat.le_of_ble_eq_true rfl))), (congrArg (fun q => w q r) (by show _ = _; rw [S_X11_addGroup, if_pos x_1, if_neg c_2, if_pos c_3, if_neg c_4, if_pos c_5]))⟩
        · skip
          exact v_throw (pc := 46) C hnx (cls := "java/lang/IllegalStateException") (text := "there are 5 groups") (by decide +kernel) wd_431 wd_73 (by decide +kernel) at_IllegalStateException (by decide) (by decide) (by decide) dX11_addGroup_46 dX11_addGroup_49 dX11_addGroup_50 dX11_addGroup_52 dX11_addGroup_55 ⟨by rw [show (X_X11_addGroup g u x) = 3 from (by rw [X_X11_addGroup, if_pos x_1, if_neg c_2, if_pos c_3, if_neg c_4, if_neg c_5])]; decide, by rw [show (X_X11_addGroup g u x) = 3 from (by rw [X_X11_addGroup, if_pos x_1, if_neg c_2, if_pos c_3, if_neg c_4, if_neg c_5])]; rfl, vAs_r, (congrArg (fun q => w q r) (by show _ = _; rw [S_X11_addGroup, if_pos x_1, if_neg c_2, if_pos c_3, if_neg c_4, if_neg c_5]))⟩
    · skip
      exact v_throw (pc := 17) C hnx (cls := "java/lang/IllegalArgumentException") (text := "the quota is out of range") (by decide +kernel) wd_359 wd_72 (by decide +kernel) at_IllegalArgumentException (by decide) (by decide) (by decide) dX11_addGroup_17 dX11_addGroup_20 dX11_addGroup_21 dX11_addGroup_23 dX11_addGroup_26 ⟨by rw [show (X_X11_addGroup g u x) = 2 from (by rw [X_X11_addGroup, if_pos x_1, if_neg c_2, if_neg c_3])]; decide, by rw [show (X_X11_addGroup g u x) = 2 from (by rw [X_X11_addGroup, if_pos x_1, if_neg c_2, if_neg c_3])]; rfl, vAs_r, (congrArg (fun q => w q r) (by show _ = _; rw [S_X11_addGroup, if_pos x_1, if_neg c_2, if_neg c_3]))⟩
def X_X11_addFile (g : vS) (a : Int32) (u : Int32) : Nat := (if (X_X11_needGroup g (a)) = 0 then (if (X_X11_needUser g (u)) = 0 then (if (X_X11_needMember g ((a).toNatClampNeg) (u)) = 0 then (if (g 2 0 0) < 0 then 3 else (if (g 2 0 0) < 20 then 0 else 3)) else (X_X11_needMember g ((a).toNatClampNeg) (u))) else (X_X11_needUser g (u))) else (X_X11_needGroup g (a)))
def V_X11_addFile (g : vS) (a : Int32) (u : Int32) : Int32 := (if (X_X11_needGroup g (a)) = 0 then (if (X_X11_needUser g (u)) = 0 then (if (X_X11_needMember g ((a).toNatClampNeg) (u)) = 0 then (if (g 2 0 0) < 0 then 0 else (if (g 2 0 0) < 20 then (((g 2 0 0) + 1) - 1) else 0)) else 0) else 0) else 0)
def S_X11_addFile (g : vS) (a : Int32) (u : Int32) : vS := (if (X_X11_needGroup g (a)) = 0 then (if (X_X11_needUser g (u)) = 0 then (if (X_X11_needMember g ((a).toNatClampNeg) (u)) = 0 then (if (g 2 0 0) < 0 then g else (if (g 2 0 0) < 20 then (s3 (Z_file g (((g 2 0 0)).toNatClampNeg) (g 2 0 0) (a)) 2 0 0 (((g 2 0 0) + 1))) else g)) else g) else g) else g)
theorem F_X11_addFile {g : vS} {a : Int32} {u : Int32} {c i j : Nat} (h2 : c ≠ 2) (h50 : c ≠ 50) (h51 : c ≠ 51) (h52 : c ≠ 52) (h53 : c ≠ 53) (h61 : c ≠ 61) (h62 : c ≠ 62) (h63 : c ≠ 63) (h66 : c ≠ 66) (h105 : c ≠ 105) (h106 : c ≠ 106) : S_X11_addFile g a u c i j = g c i j := by
  unfold S_X11_addFile
  (repeat' split) <;> first | rfl | ((simp only [s3_k h2, s3_k h50, s3_k h51, s3_k h52, s3_k h53, s3_k h61, s3_k h62, s3_k h63, s3_k h66, s3_k h105, s3_k h106, F_Zfile h50 h51 h52 h53 h61 h62 h63 h66 h105 h106]) <;> first | done | rfl)
set_option maxHeartbeats 4000000 in
set_option maxRecDepth 100000 in
theorem c_X11_addFile {G : vG} (hG : G.1.stackTraces = false) {A : vN → Nat} {g : vS} {r : vH} (a : Int32) (u : Int32) (hr : vNr r) (hfree : g 105 (g 2 0 0).toNatClampNeg 0 = 0) : vCt G yX11_addFile cX11_addFile 4 (some .int) 3 [.ref (A (0, 0)), .int (a), .int (u)] A (w g r) (fun v A2 h2 => X_X11_addFile g a u = 0 ∧ v = some (.int (V_X11_addFile g a u)) ∧ vAs 30 31 A2 A ∧ h2 = w (S_X11_addFile g a u) r) (fun cls A2 h2 => X_X11_addFile g a u ≠ 0 ∧ cls = vEx (X_X11_addFile g a u) ∧ vAs 30 31 A2 A ∧ h2 = w (S_X11_addFile g a u) r) 5 35 := by
  refine v_of hG (by decide +kernel) (Nat.le_of_ble_eq_true rfl) (lv := [(0, .ref (A (0, 0))), (1, .int (a)), (2, .int (u))]) rfl (fun X C hnx => ?_)
  have C : vC G X cX11_addFile 4 RX11 (some .int) "addFile" 3 5 35 := C
  refine v_aload_n (pc := 0) C dX11_addFile_0 0 rfl rfl ?_
  refine v_iload_n (pc := 1) C dX11_addFile_1 1 rfl rfl ?_
  refine v_callV (pc := 2) C (0, 0) ck_0 rfl (c_X11_needGroup hG (a) ) 1 wd_591 wd_62 wd_588 wd_590 wd_7 (by decide +kernel) (by decide) (by decide) rfl ([]) rfl (Nat.le_of_ble_eq_true rfl) (by decide) dX11_addFile_2 (fun cls9 A9 h9 hE9 => by obtain ⟨q9, rfl, rfl, rfl⟩ := hE9; exact v_out C hnx ⟨(by rw [show (X_X11_addFile g a u) = (X_X11_needGroup g (a)) from (by rw [X_X11_addFile, if_neg q9])]; exact q9), (by rw [show (X_X11_addFile g a u) = (X_X11_needGroup g (a)) from (by rw [X_X11_addFile, if_neg q9])]), vAs_r, (congrArg (fun q => w q r) (by show _ = _; rw [S_X11_addFile, if_neg q9]))⟩ (by decide) (by decide)) (fun v9 A9 h9 hR9 => ?_)
  obtain ⟨x_1, rfl, hA9, rfl⟩ := hR9
  obtain rfl := hA9.symm
  refine v_st (k2 := 1) (n2 := 6) (st2 := [.ref (A (27, (a).toNatClampNeg))]) rfl rfl rfl ?_
  refine v_astore_n (lv2 := [(3, .ref (A (27, (a).toNatClampNeg))), (0, .ref (A (0, 0))), (1, .int (a)), (2, .int (u))]) (pc := 5) C dX11_addFile_5 rfl (by decide) rfl ?_
  refine v_aload_n (pc := 6) C dX11_addFile_6 1 rfl rfl ?_
  refine v_iload_n (pc := 7) C dX11_addFile_7 3 rfl rfl ?_
  refine v_callV (pc := 8) C (0, 0) ck_0 rfl (c_X11_needUser hG (u) ) 1 wd_513 wd_62 wd_510 wd_512 wd_5 (by decide +kernel) (by decide) (by decide) rfl ([]) rfl (Nat.le_of_ble_eq_true rfl) (by decide) dX11_addFile_8 (fun cls9 A9 h9 hE9 => by obtain ⟨q9, rfl, rfl, rfl⟩ := hE9; exact v_out C hnx ⟨(by rw [show (X_X11_addFile g a u) = (X_X11_needUser g (u)) from (by rw [X_X11_addFile, if_pos x_1, if_neg q9])]; exact q9), (by rw [show (X_X11_addFile g a u) = (X_X11_needUser g (u)) from (by rw [X_X11_addFile, if_pos x_1, if_neg q9])]), vAs_r, (congrArg (fun q => w q r) (by show _ = _; rw [S_X11_addFile, if_pos x_1, if_neg q9]))⟩ (by decide) (by decide)) (fun v9 A9 h9 hR9 => ?_)
  obtain ⟨x_2, rfl, hA9, rfl⟩ := hR9
  obtain rfl := hA9.symm
  refine v_st (k2 := 2) (n2 := 12) (st2 := [.ref (A (22, (u).toNatClampNeg))]) rfl rfl rfl ?_
  refine v_pop (pc := 11) C dX11_addFile_11 rfl ?_
  refine v_aload_n (pc := 12) C dX11_addFile_12 1 rfl rfl ?_
  refine v_aload_n (pc := 13) C dX11_addFile_13 0 rfl rfl ?_
  refine v_iload_n (pc := 14) C dX11_addFile_14 3 rfl rfl ?_
  refine v_callV (pc := 15) C (0, 0) ck_0 rfl (c_X11_needMember hG ((a).toNatClampNeg) (u) (ok_needGroup x_1)) 2 wd_683 wd_62 wd_680 wd_682 wd_12 (by decide +kernel) (by decide) (by decide) rfl ([]) rfl (Nat.le_of_ble_eq_true rfl) (by decide) dX11_addFile_15 (fun cls9 A9 h9 hE9 => by obtain ⟨q9, rfl, rfl, rfl⟩ := hE9; exact v_out C hnx ⟨(by rw [show (X_X11_addFile g a u) = (X_X11_needMember g ((a).toNatClampNeg) (u)) from (by rw [X_X11_addFile, if_pos x_1, if_pos x_2, if_neg q9])]; exact q9), (by rw [show (X_X11_addFile g a u) = (X_X11_needMember g ((a).toNatClampNeg) (u)) from (by rw [X_X11_addFile, if_pos x_1, if_pos x_2, if_neg q9])]), vAs_r, (congrArg (fun q => w q r) (by show _ = _; rw [S_X11_addFile, if_pos x_1, if_pos x_2, if_neg q9]))⟩ (by decide) (by decide)) (fun v9 A9 h9 hR9 => ?_)
  obtain ⟨x_3, rfl, hA9, rfl⟩ := hR9
  obtain rfl := hA9.symm
  refine v_st (k2 := 3) (n2 := 18) (st2 := []) rfl rfl rfl ?_
  refine v_aload_n (pc := 18) C dX11_addFile_18 1 rfl rfl ?_
  refine v_get (pc := 19) C (0, 0) (v := .int ((g 2 0 0))) ck_0 rfl 10 (by decide) inX11 wd_230 rfl rfl dX11_addFile_19 ?_
  refine v_if_lt (pc := 22) (tgt := 37) C dX11_addFile_22 (by decide) (fun c_4 => ?_) (fun c_4 => ?_)
  · skip
    exact v_throw (pc := 37) C hnx (cls := "java/lang/IllegalStateException") (text := "there are 20 files") (by decide +kernel) wd_431 wd_73 (by decide +kernel) at_IllegalStateException (by decide) (by decide) (by decide) dX11_addFile_37 dX11_addFile_40 dX11_addFile_41 dX11_addFile_43 dX11_addFile_46 ⟨by rw [show (X_X11_addFile g a u) = 3 from (by rw [X_X11_addFile, if_pos x_1, if_pos x_2, if_pos x_3, if_pos c_4])]; decide, by rw [show (X_X11_addFile g a u) = 3 from (by rw [X_X11_addFile, if_pos x_1, if_pos x_2, if_pos x_3, if_pos c_4])]; rfl, vAs_r, (congrArg (fun q => w q r) (by show _ = _; rw [S_X11_addFile, if_pos x_1, if_pos x_2, if_pos x_3, if_pos c_4]))⟩
  · skip
    refine v_aload_n (pc := 25) C dX11_addFile_25 1 rfl rfl ?_
    refine v_get (pc := 26) C (0, 0) (v := .int ((g 2 0 0))) ck_0 rfl 10 (by decide) inX11 wd_230 rfl rfl dX11_addFile_26 ?_
    refine v_aload_n (pc := 29) C dX11_addFile_29 1 rfl rfl ?_
    refine v_get (pc := 30) C (0, 0) (v := .ref (A (3, 0))) ck_0 rfl 2 (by decide) inX11 wd_222 rfl rfl dX11_addFile_30 ?_
    refine v_alen (pc := 33) C (3, 0) (v := 20) ck_3 rfl (by decide) dX11_addFile_33 ?_
    refine v_icmp_lt (pc := 34) (tgt := 47) C dX11_addFile_34 (by decide) (fun c_5 => ?_) (fun c_5 => ?_)
    · skip
      refine v_aload_n (pc := 47) C dX11_addFile_47 1 rfl rfl ?_
      refine v_get (pc := 48) C (0, 0) (v := .ref (A (3, 0))) ck_0 rfl 2 (by decide) inX11 wd_222 rfl rfl dX11_addFile_48 ?_
      refine v_aload_n (pc := 51) C dX11_addFile_51 1 rfl rfl ?_
      refine v_get (pc := 52) C (0, 0) (v := .int ((g 2 0 0))) ck_0 rfl 10 (by decide) inX11 wd_230 rfl rfl dX11_addFile_52 ?_
      refine v_new (pc := 55) C (30, ((g 2 0 0)).toNatClampNeg) (vNo_30 (g := g) (r := r) hfree) (fun a9 m9 f9 => (vNm_30 (G := G) (g := g) (r := r) hfree hr) _ a9 m9 f9) (ci := 5) rfl inX4 tyX4 tyX4_ok wd_102 wd_309 wd_80 [.int (0), .null, .int (0), .int (0), .int (0), .int (0), .int (0), .int (0), .null] (fun j hj => match j, hj with | 0, _ => rfl | 1, _ => rfl | 2, _ => rfl | 3, _ => rfl | 4, _ => rfl | 5, _ => rfl | 6, _ => rfl | 7, _ => rfl | 8, _ => rfl | n9 + 9, hj => absurd hj (by omega)) (by decide) (by decide) dX11_addFile_55 (fun A_6 hA_6 => ?_)
      refine v_h (h2 := (vup (w g r) (30, ((g 2 0 0)).toNatClampNeg) (vO 5 [.inl (Value.int (0)), .inl (Value.null), .inl (Value.int (0)), .inl (Value.int (0)), .inl (Value.int (0)), .inl (Value.int (0)), .inl (Value.int (0)), .inl (Value.int (0)), .inl (Value.null)]))) rfl ?_
      refine v_st (k2 := 4) (n2 := 27) (st2 := [.ref (A_6 (30, ((g 2 0 0)).toNatClampNeg)), .int ((g 2 0 0)), .ref (A (3, 0))]) rfl rfl rfl ?_
      refine v_lve (lv2 := [(3, .ref (A_6 (27, (a).toNatClampNeg))), (0, .ref (A_6 (0, 0))), (1, .int (a)), (2, .int (u))]) (by rw [(hA_6 (0, 0) (vne_1 (by decide))), (hA_6 (27, (a).toNatClampNeg) (vne_1 (by decide)))]) ?_
      refine v_st (k2 := 4) (n2 := 27) (st2 := [.ref (A_6 (30, ((g 2 0 0)).toNatClampNeg)), .int ((g 2 0 0)), .ref (A_6 (3, 0))]) rfl rfl (by rw [(hA_6 (3, 0) (vne_1 (by decide)))]) ?_
      refine v_dup (pc := 58) C dX11_addFile_58 rfl ?_
      refine v_aload_n (pc := 59) C dX11_addFile_59 1 rfl rfl ?_
      refine v_get (pc := 60) C (0, 0) (v := .int ((g 2 0 0))) ((vup_n (vne_1 (by decide))).trans ck_0) rfl 10 (by decide) inX11 wd_230 rfl rfl dX11_addFile_60 ?_
      refine v_aload_n (pc := 63) C dX11_addFile_63 0 rfl rfl ?_
      refine v_callI (pc := 64) C (c_X4_init hG (h := (vup (w g r) (30, ((g 2 0 0)).toNatClampNeg) (vO 5 [.inl (Value.int (0)), .inl (Value.null), .inl (Value.int (0)), .inl (Value.int (0)), .inl (Value.int (0)), .inl (Value.int (0)), .inl (Value.int (0)), .inl (Value.int (0)), .inl (Value.null)]))) (g) (((g 2 0 0)).toNatClampNeg) ((g 2 0 0)) ((a).toNatClampNeg) vup_s ((vup_n (vne_1 (by decide))).trans (vNo_31 (g := g) (r := r) hfree)) (vNm_up (vNm_31 (G := G) (g := g) (r := r) hfree hr) (fun _ _ => rfl)) ((vup_n (vne_1 (by decide))).trans (ck_27 (g := g) (ok_needGroup x_1)))) 2 wd_702 wd_80 wd_700 wd_701 rfl (by decide +kernel) (by decide) (by decide) rfl ([.ref (A_6 (30, ((g 2 0 0)).toNatClampNeg)), .int ((g 2 0 0)), .ref (A_6 (3, 0))]) rfl (Nat.le_of_ble_eq_true rfl) (by decide) dX11_addFile_64 (fun v9 A_7 h9 hR9 => ?_)
      obtain ⟨rfl, hA_7, rfl⟩ := hR9
      refine v_st (k2 := 5) (n2 := 35) (st2 := [.ref (A_6 (30, ((g 2 0 0)).toNatClampNeg)), .int ((g 2 0 0)), .ref (A_6 (3, 0))]) rfl rfl rfl ?_
      refine v_lve (lv2 := [(3, .ref (A_7 (27, (a).toNatClampNeg))), (0, .ref (A_7 (0, 0))), (1, .int (a)), (2, .int (u))]) (by rw [(hA_7 (0, 0) (Or.inl (by show 0 < 31; decide))), (hA_7 (27, (a).toNatClampNeg) (Or.inl (by show 27 < 31; decide)))]) ?_
      refine v_st (k2 := 5) (n2 := 35) (st2 := [.ref (A_7 (30, ((g 2 0 0)).toNatClampNeg)), .int ((g 2 0 0)), .ref (A_7 (3, 0))]) rfl rfl (by rw [(hA_7 (3, 0) (Or.inl (by show 3 < 31; decide))), (hA_7 (30, ((g 2 0 0)).toNatClampNeg) (Or.inl (by show 30 < 31; decide)))]) ?_
      refine v_aast (pc := 67) C (3, 0) (30, ((g 2 0 0)).toNatClampNeg) (((HF_X4_init (h := (vup (w g r) (30, ((g 2 0 0)).toNatClampNeg) (vO 5 [.inl (Value.int (0)), .inl (Value.null), .inl (Value.int (0)), .inl (Value.int (0)), .inl (Value.int (0)), .inl (Value.int (0)), .inl (Value.int (0)), .inl (Value.int (0)), .inl (Value.null)]))) (g) (((g 2 0 0)).toNatClampNeg) ((g 2 0 0)) ((a).toNatClampNeg)) (by show 3 ≠ 30; decide) (by show 3 ≠ 31; decide)).trans ((vup_n (vne_1 (by decide))).trans ck_3)) (HK_X4_init_30 (h := (vup (w g r) (30, ((g 2 0 0)).toNatClampNeg) (vO 5 [.inl (Value.int (0)), .inl (Value.null), .inl (Value.int (0)), .inl (Value.int (0)), .inl (Value.int (0)), .inl (Value.int (0)), .inl (Value.int (0)), .inl (Value.int (0)), .inl (Value.null)]))) (g) (((g 2 0 0)).toNatClampNeg) ((g 2 0 0)) ((a).toNatClampNeg)) rfl rfl (by (try simp only [Int32.le_iff_toInt_le, Int32.lt_iff_toInt_lt, ← Int32.toInt_inj, vp_in_iff, Int32.reduceToInt] at c_4 c_5 ⊢) <;> omega) dX11_addFile_67 ?_
      refine v_less (h2 := (w (Z_file g (((g 2 0 0)).toNatClampNeg) (g 2 0 0) (a)) r)) (z_file) ?_
      refine v_aload_n (pc := 68) C dX11_addFile_68 1 rfl rfl ?_
      refine v_dup (pc := 69) C dX11_addFile_69 rfl ?_
      refine v_get (pc := 70) C (0, 0) (v := .int ((g 2 0 0))) ck_0 rfl 10 (by decide) inX11 wd_230 rfl (congrArg Value.int (F_Zfile (by decide) (by decide) (by decide) (by decide) (by decide) (by decide) (by decide) (by decide) (by decide) (by decide))) dX11_addFile_70 ?_
      refine v_iconst (v := 1) (pc := 73) C dX11_addFile_73 rfl ?_
      refine v_iadd (pc := 74) C dX11_addFile_74 ?_
      refine v_put (pc := 75) C (0, 0) (v := .int (((g 2 0 0) + 1))) ck_0 rfl 10 (by decide) inX11 tyX11 tyX11_ok nmX11 wd_230 rfl (.inl (Value.int (((g 2 0 0) + 1)))) rfl (ty := tyX11 10) (by decide +kernel) rfl rfl (Nat.le_of_ble_eq_true rfl) dX11_addFile_75 ?_
      refine v_h (h2 := (w (s3 (Z_file g (((g 2 0 0)).toNatClampNeg) (g 2 0 0) (a)) 2 0 0 (((g 2 0 0) + 1))) r)) (u_0_10) ?_
      refine v_aload_n (pc := 78) C dX11_addFile_78 1 rfl rfl ?_
      refine v_get (pc := 79) C (0, 0) (v := .int (((g 2 0 0) + 1))) ck_0 rfl 10 (by decide) inX11 wd_230 rfl (congrArg Value.int (s3_s)) dX11_addFile_79 ?_
      refine v_iconst (v := 1) (pc := 82) C dX11_addFile_82 rfl ?_
      refine v_isub (pc := 83) C dX11_addFile_83 ?_
      exact v_iret (pc := 84) C (by decide) (by decide) dX11_addFile_84 ⟨(by rw [X_X11_addFile, if_pos x_1, if_pos x_2, if_pos x_3, if_neg c_4, if_pos c_5]), (congrArg (fun q => some (Value.int q)) (by show _ = _; rw [V_X11_addFile, if_pos x_1, if_pos x_2, if_pos x_3, if_neg c_4, if_pos c_5])), (vAs_t (vAs_w hA_7 (by decide) (by decide)) (vAs_1 hA_6 (Nat.le_of_ble_eq_true rfl) (Nat.le_of_ble_eq_true rfl))), (congrArg (fun q => w q r) (by show _ = _; rw [S_X11_addFile, if_pos x_1, if_pos x_2, if_pos x_3, if_neg c_4, if_pos c_5]))⟩
    · skip
      exact v_throw (pc := 37) C hnx (cls := "java/lang/IllegalStateException") (text := "there are 20 files") (by decide +kernel) wd_431 wd_73 (by decide +kernel) at_IllegalStateException (by decide) (by decide) (by decide) dX11_addFile_37 dX11_addFile_40 dX11_addFile_41 dX11_addFile_43 dX11_addFile_46 ⟨by rw [show (X_X11_addFile g a u) = 3 from (by rw [X_X11_addFile, if_pos x_1, if_pos x_2, if_pos x_3, if_neg c_4, if_neg c_5])]; decide, by rw [show (X_X11_addFile g a u) = 3 from (by rw [X_X11_addFile, if_pos x_1, if_pos x_2, if_pos x_3, if_neg c_4, if_neg c_5])]; rfl, vAs_r, (congrArg (fun q => w q r) (by show _ = _; rw [S_X11_addFile, if_pos x_1, if_pos x_2, if_pos x_3, if_neg c_4, if_neg c_5]))⟩
