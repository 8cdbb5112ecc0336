set_option maxHeartbeats 4000000 in
set_option maxRecDepth 100000 in
theorem cs_alarms {I : Nat → vS → vS → Prop} (hb : PZ_base I) (hp : PZ_alarms I) {G : vG} {X : vX} {mn : String} (C : vC G X cL_law 9 RL (some .boolean) mn 2040 603072 7207017) {A : vN → Nat} {n : Nat} {g m : vS} {N : Nat} {sc : Nat → Int32} {o : Nat → Int64} {d : Nat → UInt64} {Q : State → Prop} {b : Nat} (hX : va_X b N sc X.2.2.2.2.1 X.2.2.2.2.1.heap) (hbl : b < X.2.2.2.2.1.heap.size) (hbA : ¬ vAd G b) (hi : I n g m) (hn5 : 5 * n + 5 ≤ N) (hN : N ≤ 2560) (k : ∀ (A2 : vN → Nat) (g2 m2 : vS) (o2 : Nat → Int64) (d2 : Nat → UInt64), vAs 1 82 A2 A → I (n + 1) g2 m2 → V G 9 X A2 (w g2 (wm m2 (rL N sc o2 d2))) (170 + 30 * (n + 1) + (vPh g2 + vPb m2 + vPw m2)) (3000 + 200 * (n + 1) + 2 * (vPh g2 + vPb m2 + vPw m2)) Q 3502 [(5, .int (nI (5 * n))), (4, .ref (A2 (92, 0))), (3, .ref (A2 (91, 0))), (2, .ref (A2 (40, 0))), (1, .ref (A2 (0, 0))), (0, .ref (b))] []) : V G 9 X A (w g (wm m (rL N sc o d))) (170 + 30 * n + (vPh g + vPb m + vPw m)) (3000 + 200 * n + 2 * (vPh g + vPb m + vPw m)) Q 2645 [(5, .int (nI (5 * n))), (4, .ref (A (92, 0))), (3, .ref (A (91, 0))), (2, .ref (A (40, 0))), (1, .ref (A (0, 0))), (0, .ref (b))] [] := by
  have hG := C.st
  obtain ⟨h103, h104, h105, hI1, hI3, hI4, hdr, hsh, hqu, hq9, hU6, hu0, hu, hg0, hg, hf0, hf, hl0, hl, hw0, hw, hc0, hc9, h1, h2, h3, h4, h5, h6, h7, h8, h9, hDE, h12, h13, hq10, hkc, hns⟩ := hb n g m hi (by omega)
  refine v_aload_n (pc := 2645) C dL_law_2645 4 rfl rfl ?_
  refine v_aload_n (pc := 2646) C dL_law_2646 5 rfl rfl ?_
  refine v_iload (pc := 2647) C dL_law_2647 0 rfl ?_
  refine v_iconst (v := 1) (pc := 2649) C dL_law_2649 rfl ?_
  refine v_iadd (pc := 2650) C dL_law_2650 ?_
  refine v_sld (pc := 2651) C hX hbl hbA (ix_1 hn5 hN) dL_law_2651 ?_
  refine v_aload_n (pc := 2652) C dL_law_2652 2 rfl rfl ?_
  obtain ⟨hP1, hP2, hP3, hP4, hP5, hP6⟩ := hp n g m hi (by omega) (sc (5 * n + 1))
  have hroom : (170 + 30 * (n + 1) + (vPh g + vPb (S_X12_alarms m (sc (5 * n + 1))) + vPw (S_X12_alarms m (sc (5 * n + 1))))) ≤ 603072 ∧ (3000 + 200 * (n + 1) + 2 * (vPh g + vPb (S_X12_alarms m (sc (5 * n + 1))) + vPw (S_X12_alarms m (sc (5 * n + 1))))) ≤ 7207017 := by obtain ⟨-, -, -, -, -, -, -, -, -, -, -, -, -, -, -, -, -, -, -, -, -, -, -, -, -, -, -, -, -, -, -, -, -, -, -, -, z1, z2⟩ := hb (n + 1) _ _ hP3 (by omega); exact ⟨z1, z2⟩
  refine v_callSH (pc := 2653) C (c_L_alarms hG (g := g) (r := wm m (rL N sc o d)) (sc (5 * n + 1)) (o := o) ((wm_at (by decide)).trans rL_91)) 3 wd_1160 wd_61 wd_1158 wd_1159 (by decide +kernel) (by decide) (by decide) rfl ([]) rfl (Nat.le_of_ble_eq_true rfl) ⟨by omega, by omega⟩ dL_law_2653 (fun v9 A_1 h9 hR9 => ?_)
  obtain ⟨rfl, hA_1, rfl⟩ := hR9
  refine v_st (k2 := ((170 + 30 * n + (vPh g + vPb m + vPw m)) + 1)) (n2 := ((3000 + 200 * n + 2 * (vPh g + vPb m + vPw m)) + 6)) (st2 := [.int (K_L_alarms (X_X11_alarms g (sc (5 * n + 1))))]) rfl rfl rfl ?_
  refine v_lve (lv2 := [(5, .int (nI (5 * n))), (4, .ref (A_1 (92, 0))), (3, .ref (A_1 (91, 0))), (2, .ref (A_1 (40, 0))), (1, .ref (A_1 (0, 0))), (0, .ref (b))]) (by rw [hA_1 (92, 0) (Or.inr (Nat.le_of_ble_eq_true rfl)), hA_1 (91, 0) (Or.inr (Nat.le_of_ble_eq_true rfl)), hA_1 (40, 0) (Or.inr (Nat.le_of_ble_eq_true rfl)), hA_1 (0, 0) (Or.inl (Nat.le_of_ble_eq_true rfl))]) ?_
  refine v_h (h2 := wm m (w g (rL N sc (if X_X11_alarms g (sc (5 * n + 1)) = 0 then vp_updL o 0 ((V_X11_alarms g (sc (5 * n + 1))).toInt64) else o) d))) ((congrArg (w g) rL_ifo).trans w_wm.symm) ?_
  refine v_istore (lv2 := [(6, .int (K_L_alarms (X_X11_alarms g (sc (5 * n + 1))))), (5, .int (nI (5 * n))), (4, .ref (A_1 (92, 0))), (3, .ref (A_1 (91, 0))), (2, .ref (A_1 (40, 0))), (1, .ref (A_1 (0, 0))), (0, .ref (b))]) (pc := 2656) C dL_law_2656 (by decide) rfl ?_
  refine v_aload_n (pc := 2658) C dL_law_2658 4 rfl rfl ?_
  refine v_aload_n (pc := 2659) C dL_law_2659 6 rfl rfl ?_
  refine v_iload (pc := 2660) C dL_law_2660 1 rfl ?_
  refine v_iconst (v := 1) (pc := 2662) C dL_law_2662 rfl ?_
  refine v_iadd (pc := 2663) C dL_law_2663 ?_
  refine v_sld (pc := 2664) C hX hbl hbA (ix_1 hn5 hN) dL_law_2664 ?_
  refine v_callV (pc := 2665) C (40, 0) ck_40 rfl (c_X12_alarms hG (g := m) (r := w g (rL N sc (if X_X11_alarms g (sc (5 * n + 1)) = 0 then vp_updL o 0 ((V_X11_alarms g (sc (5 * n + 1))).toInt64) else o) d)) (sc (5 * n + 1)) hu0 hu hg0 hg hf0 hf) 1 wd_1801 wd_68 wd_1798 wd_1799 wd_1800 (by decide +kernel) (by decide) (by decide) rfl ([]) rfl (Nat.le_of_ble_eq_true rfl) ⟨by omega, by omega⟩ dL_law_2665 (fun _ _ _ q => q.elim) (fun v9 A_2 h9 hR9 => ?_)
  obtain ⟨rfl, hA_2, rfl⟩ := hR9
  refine v_st (k2 := (((170 + 30 * n + (vPh g + vPb m + vPw m)) + 1) + 0)) (n2 := (((3000 + 200 * n + 2 * (vPh g + vPb m + vPw m)) + 6) + 0)) (st2 := [.int (V_X12_alarms m (sc (5 * n + 1)))]) rfl rfl rfl ?_
  obtain rfl := hA_2.symm
  refine v_istore (lv2 := [(7, .int (V_X12_alarms m (sc (5 * n + 1)))), (6, .int (K_L_alarms (X_X11_alarms g (sc (5 * n + 1))))), (5, .int (nI (5 * n))), (4, .ref (A_1 (92, 0))), (3, .ref (A_1 (91, 0))), (2, .ref (A_1 (40, 0))), (1, .ref (A_1 (0, 0))), (0, .ref (b))]) (pc := 2668) C dL_law_2668 (by decide) rfl ?_
  refine v_aload_n (pc := 2670) C dL_law_2670 5 rfl rfl ?_
  refine v_callV (pc := 2671) C (40, 0) ck_40 rfl (c_X12_thrown hG (g := (S_X12_alarms m (sc (5 * n + 1))))) 0 wd_1377 wd_68 wd_1374 wd_1375 wd_1376 (by decide +kernel) (by decide) (by decide) rfl ([]) rfl (Nat.le_of_ble_eq_true rfl) ⟨by omega, by omega⟩ dL_law_2671 (fun _ _ _ q => q.elim) (fun v9 A9 h9 hR9 => ?_)
  obtain ⟨rfl, hA9, rfl⟩ := hR9
  obtain rfl := hA9.symm
  refine v_st (k2 := (((170 + 30 * n + (vPh g + vPb m + vPw m)) + 1) + 0)) (n2 := (((3000 + 200 * n + 2 * (vPh g + vPb m + vPw m)) + 6) + 0)) (st2 := [.int (V_X12_thrown (S_X12_alarms m (sc (5 * n + 1))))]) rfl rfl rfl ?_
  refine v_iload (pc := 2674) C dL_law_2674 1 rfl ?_
  refine v_icmp_eq (pc := 2676) (tgt := 2681) C dL_law_2676 (by decide) (fun c3 => ?_) (fun c3 => ?_)
  · skip
    refine v_iload (pc := 2681) C dL_law_2681 1 rfl ?_
    refine v_if_ne (pc := 2683) (tgt := 2698) C dL_law_2683 (by decide) (fun c4 => ?_) (fun c4 => ?_)
    · skip
      refine v_goto (tgt := 3502) (pc := 2698) C dL_law_2698 (by decide) ?_
      refine v_lv (lv2 := [(5, .int (nI (5 * n))), (4, .ref (A_1 (92, 0))), (3, .ref (A_1 (91, 0))), (2, .ref (A_1 (40, 0))), (1, .ref (A_1 (0, 0))), (0, .ref (b))]) [2, 3, 4, 5, 6, 7] rfl ?_
      refine v_h (h2 := w g (wm (S_X12_alarms m (sc (5 * n + 1))) (rL N sc (if X_X11_alarms g (sc (5 * n + 1)) = 0 then vp_updL o 0 ((V_X11_alarms g (sc (5 * n + 1))).toInt64) else o) d))) w_wm ?_
      refine v_widen (k2 := (170 + 30 * (n + 1) + (vPh g + vPb (S_X12_alarms m (sc (5 * n + 1))) + vPw (S_X12_alarms m (sc (5 * n + 1)))))) (n2 := (3000 + 200 * (n + 1) + 2 * (vPh g + vPb (S_X12_alarms m (sc (5 * n + 1))) + vPw (S_X12_alarms m (sc (5 * n + 1)))))) (by omega) (by omega) ?_
      exact k A_1 g (S_X12_alarms m (sc (5 * n + 1))) (if X_X11_alarms g (sc (5 * n + 1)) = 0 then vp_updL o 0 ((V_X11_alarms g (sc (5 * n + 1))).toInt64) else o) d (vAs_0 hA_1) hP3
    · skip
      have hX0 := kz_alarms (E_X_X11_alarms ..) c4
      have hVV := hP2 hX0
      refine v_aload_n (pc := 2686) C dL_law_2686 4 rfl rfl ?_
      refine v_iconst (v := 0) (pc := 2687) C dL_law_2687 rfl ?_
      refine v_lald (pc := 2688) C (91, 0) (v := (V_X11_alarms g (sc (5 * n + 1))).toInt64) ((wm_at (by decide)).trans ((w_at (by decide)).trans rL_91)) (by simp only [vp_in_iff]; decide) ((congrFun (if_pos hX0) _).trans rfl) dL_law_2688 ?_
      refine v_iload (pc := 2689) C dL_law_2689 0 rfl ?_
      refine v_i2l (pc := 2691) C dL_law_2691 rfl ?_
      refine v_lcmp (pc := 2692) C dL_law_2692 ?_
      refine v_if_eq (pc := 2693) (tgt := 2698) C dL_law_2693 (by decide) (fun c5 => ?_) (fun c5 => ?_)
      · skip
        refine v_goto (tgt := 3502) (pc := 2698) C dL_law_2698 (by decide) ?_
        refine v_lv (lv2 := [(5, .int (nI (5 * n))), (4, .ref (A_1 (92, 0))), (3, .ref (A_1 (91, 0))), (2, .ref (A_1 (40, 0))), (1, .ref (A_1 (0, 0))), (0, .ref (b))]) [2, 3, 4, 5, 6, 7] rfl ?_
        refine v_h (h2 := w g (wm (S_X12_alarms m (sc (5 * n + 1))) (rL N sc (if X_X11_alarms g (sc (5 * n + 1)) = 0 then vp_updL o 0 ((V_X11_alarms g (sc (5 * n + 1))).toInt64) else o) d))) w_wm ?_
        refine v_widen (k2 := (170 + 30 * (n + 1) + (vPh g + vPb (S_X12_alarms m (sc (5 * n + 1))) + vPw (S_X12_alarms m (sc (5 * n + 1)))))) (n2 := (3000 + 200 * (n + 1) + 2 * (vPh g + vPb (S_X12_alarms m (sc (5 * n + 1))) + vPw (S_X12_alarms m (sc (5 * n + 1)))))) (by omega) (by omega) ?_
        exact k A_1 g (S_X12_alarms m (sc (5 * n + 1))) (if X_X11_alarms g (sc (5 * n + 1)) = 0 then vp_updL o 0 ((V_X11_alarms g (sc (5 * n + 1))).toInt64) else o) d (vAs_0 hA_1) hP3
      · skip
        exact absurd (by rw [hVV]; exact lg_self) c5
  · skip
    exact absurd (thrown_eq hP1) c3
set_option maxHeartbeats 4000000 in
set_option maxRecDepth 100000 in
theorem cs_split {I : Nat → vS → vS → Prop} (hb : PZ_base I) (hp : PZ_split I) {G : vG} {X : vX} {mn : String} (C : vC G X cL_law 9 RL (some .boolean) mn 2040 603072 7207017) {A : vN → Nat} {n : Nat} {g m : vS} {N : Nat} {sc : Nat → Int32} {o : Nat → Int64} {d : Nat → UInt64} {Q : State → Prop} {b : Nat} (hX : va_X b N sc X.2.2.2.2.1 X.2.2.2.2.1.heap) (hbl : b < X.2.2.2.2.1.heap.size) (hbA : ¬ vAd G b) (hi : I n g m) (hn5 : 5 * n + 5 ≤ N) (hN : N ≤ 2560) (k : ∀ (A2 : vN → Nat) (g2 m2 : vS) (o2 : Nat → Int64) (d2 : Nat → UInt64), vAs 1 82 A2 A → I (n + 1) g2 m2 → V G 9 X A2 (w g2 (wm m2 (rL N sc o2 d2))) (170 + 30 * (n + 1) + (vPh g2 + vPb m2 + vPw m2)) (3000 + 200 * (n + 1) + 2 * (vPh g2 + vPb m2 + vPw m2)) Q 3502 [(5, .int (nI (5 * n))), (4, .ref (A2 (92, 0))), (3, .ref (A2 (91, 0))), (2, .ref (A2 (40, 0))), (1, .ref (A2 (0, 0))), (0, .ref (b))] []) : V G 9 X A (w g (wm m (rL N sc o d))) (170 + 30 * n + (vPh g + vPb m + vPw m)) (3000 + 200 * n + 2 * (vPh g + vPb m + vPw m)) Q 2701 [(5, .int (nI (5 * n))), (4, .ref (A (92, 0))), (3, .ref (A (91, 0))), (2, .ref (A (40, 0))), (1, .ref (A (0, 0))), (0, .ref (b))] [] := by
  have hG := C.st
  obtain ⟨h103, h104, h105, hI1, hI3, hI4, hdr, hsh, hqu, hq9, hU6, hu0, hu, hg0, hg, hf0, hf, hl0, hl, hw0, hw, hc0, hc9, h1, h2, h3, h4, h5, h6, h7, h8, h9, hDE, h12, h13, hq10, hkc, hns⟩ := hb n g m hi (by omega)
  refine v_aload_n (pc := 2701) C dL_law_2701 4 rfl rfl ?_
  refine v_aload_n (pc := 2702) C dL_law_2702 5 rfl rfl ?_
  refine v_iload (pc := 2703) C dL_law_2703 0 rfl ?_
  refine v_iconst (v := 1) (pc := 2705) C dL_law_2705 rfl ?_
  refine v_iadd (pc := 2706) C dL_law_2706 ?_
  refine v_sld (pc := 2707) C hX hbl hbA (ix_1 hn5 hN) dL_law_2707 ?_
  refine v_aload_n (pc := 2708) C dL_law_2708 5 rfl rfl ?_
  refine v_iload (pc := 2709) C dL_law_2709 0 rfl ?_
  refine v_iconst (v := 2) (pc := 2711) C dL_law_2711 rfl ?_
  refine v_iadd (pc := 2712) C dL_law_2712 ?_
  refine v_sld (pc := 2713) C hX hbl hbA (ix_2 hn5 hN) dL_law_2713 ?_
  refine v_aload_n (pc := 2714) C dL_law_2714 5 rfl rfl ?_
  refine v_iload (pc := 2715) C dL_law_2715 0 rfl ?_
  refine v_iconst (v := 3) (pc := 2717) C dL_law_2717 rfl ?_
  refine v_iadd (pc := 2718) C dL_law_2718 ?_
  refine v_sld (pc := 2719) C hX hbl hbA (ix_3 hn5 hN) dL_law_2719 ?_
  refine v_aload_n (pc := 2720) C dL_law_2720 2 rfl rfl ?_
  obtain ⟨hP1, hP2, hP3, hP4, hP5, hP6⟩ := hp n g m hi (by omega) (sc (5 * n + 1)) (sc (5 * n + 2)) (sc (5 * n + 3))
  have hroom : (170 + 30 * (n + 1) + (vPh (S_X11_split g (sc (5 * n + 1)) (sc (5 * n + 2)) (sc (5 * n + 3))) + vPb (S_X12_split m (sc (5 * n + 1)) (sc (5 * n + 2)) (sc (5 * n + 3))) + vPw (S_X12_split m (sc (5 * n + 1)) (sc (5 * n + 2)) (sc (5 * n + 3))))) ≤ 603072 ∧ (3000 + 200 * (n + 1) + 2 * (vPh (S_X11_split g (sc (5 * n + 1)) (sc (5 * n + 2)) (sc (5 * n + 3))) + vPb (S_X12_split m (sc (5 * n + 1)) (sc (5 * n + 2)) (sc (5 * n + 3))) + vPw (S_X12_split m (sc (5 * n + 1)) (sc (5 * n + 2)) (sc (5 * n + 3))))) ≤ 7207017 := by obtain ⟨-, -, -, -, -, -, -, -, -, -, -, -, -, -, -, -, -, -, -, -, -, -, -, -, -, -, -, -, -, -, -, -, -, -, -, -, z1, z2⟩ := hb (n + 1) _ _ hP3 (by omega); exact ⟨z1, z2⟩
  refine v_callSH (pc := 2721) C (c_L_split hG (g := g) (r := wm m (rL N sc o d)) (sc (5 * n + 1)) (sc (5 * n + 2)) (sc (5 * n + 3)) (o := o) ((wm_at (by decide)).trans rL_91)) 5 wd_1167 wd_61 wd_1165 wd_1166 (by decide +kernel) (by decide) (by decide) rfl ([]) rfl (Nat.le_of_ble_eq_true rfl) ⟨by omega, by omega⟩ dL_law_2721 (fun v9 A_1 h9 hR9 => ?_)
  obtain ⟨rfl, hA_1, rfl⟩ := hR9
  refine v_st (k2 := ((170 + 30 * n + (vPh g + vPb m + vPw m)) + 2)) (n2 := ((3000 + 200 * n + 2 * (vPh g + vPb m + vPw m)) + 12)) (st2 := [.int (K_L_split (X_X11_split g (sc (5 * n + 1)) (sc (5 * n + 2)) (sc (5 * n + 3))))]) rfl rfl rfl ?_
  refine v_lve (lv2 := [(5, .int (nI (5 * n))), (4, .ref (A_1 (92, 0))), (3, .ref (A_1 (91, 0))), (2, .ref (A_1 (40, 0))), (1, .ref (A_1 (0, 0))), (0, .ref (b))]) (by rw [hA_1 (92, 0) (Or.inr (Nat.le_of_ble_eq_true rfl)), hA_1 (91, 0) (Or.inr (Nat.le_of_ble_eq_true rfl)), hA_1 (40, 0) (Or.inr (Nat.le_of_ble_eq_true rfl)), hA_1 (0, 0) (Or.inl (Nat.le_of_ble_eq_true rfl))]) ?_
  refine v_h (h2 := wm m (w (S_X11_split g (sc (5 * n + 1)) (sc (5 * n + 2)) (sc (5 * n + 3))) (rL N sc (if X_X11_split g (sc (5 * n + 1)) (sc (5 * n + 2)) (sc (5 * n + 3)) = 0 then vp_updL o 0 ((V_X11_split g (sc (5 * n + 1)) (sc (5 * n + 2)) (sc (5 * n + 3))).toInt64) else o) d))) ((congrArg (w (S_X11_split g (sc (5 * n + 1)) (sc (5 * n + 2)) (sc (5 * n + 3)))) rL_ifo).trans w_wm.symm) ?_
  refine v_istore (lv2 := [(6, .int (K_L_split (X_X11_split g (sc (5 * n + 1)) (sc (5 * n + 2)) (sc (5 * n + 3))))), (5, .int (nI (5 * n))), (4, .ref (A_1 (92, 0))), (3, .ref (A_1 (91, 0))), (2, .ref (A_1 (40, 0))), (1, .ref (A_1 (0, 0))), (0, .ref (b))]) (pc := 2724) C dL_law_2724 (by decide) rfl ?_
  refine v_aload_n (pc := 2726) C dL_law_2726 4 rfl rfl ?_
  refine v_aload_n (pc := 2727) C dL_law_2727 6 rfl rfl ?_
  refine v_iload (pc := 2728) C dL_law_2728 1 rfl ?_
  refine v_iconst (v := 1) (pc := 2730) C dL_law_2730 rfl ?_
  refine v_iadd (pc := 2731) C dL_law_2731 ?_
  refine v_sld (pc := 2732) C hX hbl hbA (ix_1 hn5 hN) dL_law_2732 ?_
  refine v_aload_n (pc := 2733) C dL_law_2733 6 rfl rfl ?_
  refine v_iload (pc := 2734) C dL_law_2734 1 rfl ?_
  refine v_iconst (v := 2) (pc := 2736) C dL_law_2736 rfl ?_
  refine v_iadd (pc := 2737) C dL_law_2737 ?_
  refine v_sld (pc := 2738) C hX hbl hbA (ix_2 hn5 hN) dL_law_2738 ?_
  refine v_aload_n (pc := 2739) C dL_law_2739 6 rfl rfl ?_
  refine v_iload (pc := 2740) C dL_law_2740 1 rfl ?_
  refine v_iconst (v := 3) (pc := 2742) C dL_law_2742 rfl ?_
  refine v_iadd (pc := 2743) C dL_law_2743 ?_
  refine v_sld (pc := 2744) C hX hbl hbA (ix_3 hn5 hN) dL_law_2744 ?_
  refine v_callV (pc := 2745) C (40, 0) ck_40 rfl (c_X12_split hG (g := m) (r := w (S_X11_split g (sc (5 * n + 1)) (sc (5 * n + 2)) (sc (5 * n + 3))) (rL N sc (if X_X11_split g (sc (5 * n + 1)) (sc (5 * n + 2)) (sc (5 * n + 3)) = 0 then vp_updL o 0 ((V_X11_split g (sc (5 * n + 1)) (sc (5 * n + 2)) (sc (5 * n + 3))).toInt64) else o) d)) (sc (5 * n + 1)) (sc (5 * n + 2)) (sc (5 * n + 3)) hu0 hu hg0 hg hf0 hf) 3 wd_1805 wd_68 wd_1802 wd_1803 wd_1804 (by decide +kernel) (by decide) (by decide) rfl ([]) rfl (Nat.le_of_ble_eq_true rfl) ⟨by omega, by omega⟩ dL_law_2745 (fun _ _ _ q => q.elim) (fun v9 A_2 h9 hR9 => ?_)
  obtain ⟨rfl, hA_2, rfl⟩ := hR9
  refine v_st (k2 := (((170 + 30 * n + (vPh g + vPb m + vPw m)) + 2) + 0)) (n2 := (((3000 + 200 * n + 2 * (vPh g + vPb m + vPw m)) + 12) + 0)) (st2 := [.int (V_X12_split m (sc (5 * n + 1)) (sc (5 * n + 2)) (sc (5 * n + 3)))]) rfl rfl rfl ?_
  obtain rfl := hA_2.symm
  refine v_istore (lv2 := [(7, .int (V_X12_split m (sc (5 * n + 1)) (sc (5 * n + 2)) (sc (5 * n + 3)))), (6, .int (K_L_split (X_X11_split g (sc (5 * n + 1)) (sc (5 * n + 2)) (sc (5 * n + 3))))), (5, .int (nI (5 * n))), (4, .ref (A_1 (92, 0))), (3, .ref (A_1 (91, 0))), (2, .ref (A_1 (40, 0))), (1, .ref (A_1 (0, 0))), (0, .ref (b))]) (pc := 2748) C dL_law_2748 (by decide) rfl ?_
  refine v_aload_n (pc := 2750) C dL_law_2750 5 rfl rfl ?_
  refine v_callV (pc := 2751) C (40, 0) ck_40 rfl (c_X12_thrown hG (g := (S_X12_split m (sc (5 * n + 1)) (sc (5 * n + 2)) (sc (5 * n + 3))))) 0 wd_1377 wd_68 wd_1374 wd_1375 wd_1376 (by decide +kernel) (by decide) (by decide) rfl ([]) rfl (Nat.le_of_ble_eq_true rfl) ⟨by omega, by omega⟩ dL_law_2751 (fun _ _ _ q => q.elim) (fun v9 A9 h9 hR9 => ?_)
  obtain ⟨rfl, hA9, rfl⟩ := hR9
  obtain rfl := hA9.symm
  refine v_st (k2 := (((170 + 30 * n + (vPh g + vPb m + vPw m)) + 2) + 0)) (n2 := (((3000 + 200 * n + 2 * (vPh g + vPb m + vPw m)) + 12) + 0)) (st2 := [.int (V_X12_thrown (S_X12_split m (sc (5 * n + 1)) (sc (5 * n + 2)) (sc (5 * n + 3))))]) rfl rfl rfl ?_
  refine v_iload (pc := 2754) C dL_law_2754 1 rfl ?_
  refine v_icmp_eq (pc := 2756) (tgt := 2761) C dL_law_2756 (by decide) (fun c3 => ?_) (fun c3 => ?_)
  · skip
    refine v_iload (pc := 2761) C dL_law_2761 1 rfl ?_
    refine v_if_ne (pc := 2763) (tgt := 2778) C dL_law_2763 (by decide) (fun c4 => ?_) (fun c4 => ?_)
    · skip
      refine v_goto (tgt := 3502) (pc := 2778) C dL_law_2778 (by decide) ?_
      refine v_lv (lv2 := [(5, .int (nI (5 * n))), (4, .ref (A_1 (92, 0))), (3, .ref (A_1 (91, 0))), (2, .ref (A_1 (40, 0))), (1, .ref (A_1 (0, 0))), (0, .ref (b))]) [2, 3, 4, 5, 6, 7] rfl ?_
      refine v_h (h2 := w (S_X11_split g (sc (5 * n + 1)) (sc (5 * n + 2)) (sc (5 * n + 3))) (wm (S_X12_split m (sc (5 * n + 1)) (sc (5 * n + 2)) (sc (5 * n + 3))) (rL N sc (if X_X11_split g (sc (5 * n + 1)) (sc (5 * n + 2)) (sc (5 * n + 3)) = 0 then vp_updL o 0 ((V_X11_split g (sc (5 * n + 1)) (sc (5 * n + 2)) (sc (5 * n + 3))).toInt64) else o) d))) w_wm ?_
      refine v_widen (k2 := (170 + 30 * (n + 1) + (vPh (S_X11_split g (sc (5 * n + 1)) (sc (5 * n + 2)) (sc (5 * n + 3))) + vPb (S_X12_split m (sc (5 * n + 1)) (sc (5 * n + 2)) (sc (5 * n + 3))) + vPw (S_X12_split m (sc (5 * n + 1)) (sc (5 * n + 2)) (sc (5 * n + 3)))))) (n2 := (3000 + 200 * (n + 1) + 2 * (vPh (S_X11_split g (sc (5 * n + 1)) (sc (5 * n + 2)) (sc (5 * n + 3))) + vPb (S_X12_split m (sc (5 * n + 1)) (sc (5 * n + 2)) (sc (5 * n + 3))) + vPw (S_X12_split m (sc (5 * n + 1)) (sc (5 * n + 2)) (sc (5 * n + 3)))))) (by omega) (by omega) ?_
      exact k A_1 (S_X11_split g (sc (5 * n + 1)) (sc (5 * n + 2)) (sc (5 * n + 3))) (S_X12_split m (sc (5 * n + 1)) (sc (5 * n + 2)) (sc (5 * n + 3))) (if X_X11_split g (sc (5 * n + 1)) (sc (5 * n + 2)) (sc (5 * n + 3)) = 0 then vp_updL o 0 ((V_X11_split g (sc (5 * n + 1)) (sc (5 * n + 2)) (sc (5 * n + 3))).toInt64) else o) d (vAs_0 hA_1) hP3
    · skip
      have hX0 := kz_split (E_X_X11_split ..) c4
      have hVV := hP2 hX0
      refine v_aload_n (pc := 2766) C dL_law_2766 4 rfl rfl ?_
      refine v_iconst (v := 0) (pc := 2767) C dL_law_2767 rfl ?_
      refine v_lald (pc := 2768) C (91, 0) (v := (V_X11_split g (sc (5 * n + 1)) (sc (5 * n + 2)) (sc (5 * n + 3))).toInt64) ((wm_at (by decide)).trans ((w_at (by decide)).trans rL_91)) (by simp only [vp_in_iff]; decide) ((congrFun (if_pos hX0) _).trans rfl) dL_law_2768 ?_
      refine v_iload (pc := 2769) C dL_law_2769 0 rfl ?_
      refine v_i2l (pc := 2771) C dL_law_2771 rfl ?_
      refine v_lcmp (pc := 2772) C dL_law_2772 ?_
      refine v_if_eq (pc := 2773) (tgt := 2778) C dL_law_2773 (by decide) (fun c5 => ?_) (fun c5 => ?_)
      · skip
        refine v_goto (tgt := 3502) (pc := 2778) C dL_law_2778 (by decide) ?_
        refine v_lv (lv2 := [(5, .int (nI (5 * n))), (4, .ref (A_1 (92, 0))), (3, .ref (A_1 (91, 0))), (2, .ref (A_1 (40, 0))), (1, .ref (A_1 (0, 0))), (0, .ref (b))]) [2, 3, 4, 5, 6, 7] rfl ?_
        refine v_h (h2 := w (S_X11_split g (sc (5 * n + 1)) (sc (5 * n + 2)) (sc (5 * n + 3))) (wm (S_X12_split m (sc (5 * n + 1)) (sc (5 * n + 2)) (sc (5 * n + 3))) (rL N sc (if X_X11_split g (sc (5 * n + 1)) (sc (5 * n + 2)) (sc (5 * n + 3)) = 0 then vp_updL o 0 ((V_X11_split g (sc (5 * n + 1)) (sc (5 * n + 2)) (sc (5 * n + 3))).toInt64) else o) d))) w_wm ?_
        refine v_widen (k2 := (170 + 30 * (n + 1) + (vPh (S_X11_split g (sc (5 * n + 1)) (sc (5 * n + 2)) (sc (5 * n + 3))) + vPb (S_X12_split m (sc (5 * n + 1)) (sc (5 * n + 2)) (sc (5 * n + 3))) + vPw (S_X12_split m (sc (5 * n + 1)) (sc (5 * n + 2)) (sc (5 * n + 3)))))) (n2 := (3000 + 200 * (n + 1) + 2 * (vPh (S_X11_split g (sc (5 * n + 1)) (sc (5 * n + 2)) (sc (5 * n + 3))) + vPb (S_X12_split m (sc (5 * n + 1)) (sc (5 * n + 2)) (sc (5 * n + 3))) + vPw (S_X12_split m (sc (5 * n + 1)) (sc (5 * n + 2)) (sc (5 * n + 3)))))) (by omega) (by omega) ?_
        exact k A_1 (S_X11_split g (sc (5 * n + 1)) (sc (5 * n + 2)) (sc (5 * n + 3))) (S_X12_split m (sc (5 * n + 1)) (sc (5 * n + 2)) (sc (5 * n + 3))) (if X_X11_split g (sc (5 * n + 1)) (sc (5 * n + 2)) (sc (5 * n + 3)) = 0 then vp_updL o 0 ((V_X11_split g (sc (5 * n + 1)) (sc (5 * n + 2)) (sc (5 * n + 3))).toInt64) else o) d (vAs_0 hA_1) hP3
      · skip
        exact absurd (by rw [hVV]; exact lg_self) c5
  · skip
    exact absurd (thrown_eq hP1) c3
set_option maxHeartbeats 4000000 in
set_option maxRecDepth 100000 in
theorem cs_share {I : Nat → vS → vS → Prop} (hb : PZ_base I) (hp : PZ_share I) {G : vG} {X : vX} {mn : String} (C : vC G X cL_law 9 RL (some .boolean) mn 2040 603072 7207017) {A : vN → Nat} {n : Nat} {g m : vS} {N : Nat} {sc : Nat → Int32} {o : Nat → Int64} {d : Nat → UInt64} {Q : State → Prop} {b : Nat} (hX : va_X b N sc X.2.2.2.2.1 X.2.2.2.2.1.heap) (hbl : b < X.2.2.2.2.1.heap.size) (hbA : ¬ vAd G b) (hi : I n g m) (hn5 : 5 * n + 5 ≤ N) (hN : N ≤ 2560) (k : ∀ (A2 : vN → Nat) (g2 m2 : vS) (o2 : Nat → Int64) (d2 : Nat → UInt64), vAs 1 82 A2 A → I (n + 1) g2 m2 → V G 9 X A2 (w g2 (wm m2 (rL N sc o2 d2))) (170 + 30 * (n + 1) + (vPh g2 + vPb m2 + vPw m2)) (3000 + 200 * (n + 1) + 2 * (vPh g2 + vPb m2 + vPw m2)) Q 3502 [(5, .int (nI (5 * n))), (4, .ref (A2 (92, 0))), (3, .ref (A2 (91, 0))), (2, .ref (A2 (40, 0))), (1, .ref (A2 (0, 0))), (0, .ref (b))] []) : V G 9 X A (w g (wm m (rL N sc o d))) (170 + 30 * n + (vPh g + vPb m + vPw m)) (3000 + 200 * n + 2 * (vPh g + vPb m + vPw m)) Q 2781 [(5, .int (nI (5 * n))), (4, .ref (A (92, 0))), (3, .ref (A (91, 0))), (2, .ref (A (40, 0))), (1, .ref (A (0, 0))), (0, .ref (b))] [] := by
  have hG := C.st
  obtain ⟨h103, h104, h105, hI1, hI3, hI4, hdr, hsh, hqu, hq9, hU6, hu0, hu, hg0, hg, hf0, hf, hl0, hl, hw0, hw, hc0, hc9, h1, h2, h3, h4, h5, h6, h7, h8, h9, hDE, h12, h13, hq10, hkc, hns⟩ := hb n g m hi (by omega)
  refine v_aload_n (pc := 2781) C dL_law_2781 4 rfl rfl ?_
  refine v_aload_n (pc := 2782) C dL_law_2782 5 rfl rfl ?_
  refine v_iload (pc := 2783) C dL_law_2783 0 rfl ?_
  refine v_iconst (v := 1) (pc := 2785) C dL_law_2785 rfl ?_
  refine v_iadd (pc := 2786) C dL_law_2786 ?_
  refine v_sld (pc := 2787) C hX hbl hbA (ix_1 hn5 hN) dL_law_2787 ?_
  refine v_aload_n (pc := 2788) C dL_law_2788 5 rfl rfl ?_
  refine v_iload (pc := 2789) C dL_law_2789 0 rfl ?_
  refine v_iconst (v := 2) (pc := 2791) C dL_law_2791 rfl ?_
  refine v_iadd (pc := 2792) C dL_law_2792 ?_
  refine v_sld (pc := 2793) C hX hbl hbA (ix_2 hn5 hN) dL_law_2793 ?_
  refine v_aload_n (pc := 2794) C dL_law_2794 2 rfl rfl ?_
  obtain ⟨hP1, hP2, hP3, hP4, hP5, hP6⟩ := hp n g m hi (by omega) (sc (5 * n + 1)) (sc (5 * n + 2))
  have hroom : (170 + 30 * (n + 1) + (vPh g + vPb (S_X12_share m (sc (5 * n + 1)) (sc (5 * n + 2))) + vPw (S_X12_share m (sc (5 * n + 1)) (sc (5 * n + 2))))) ≤ 603072 ∧ (3000 + 200 * (n + 1) + 2 * (vPh g + vPb (S_X12_share m (sc (5 * n + 1)) (sc (5 * n + 2))) + vPw (S_X12_share m (sc (5 * n + 1)) (sc (5 * n + 2))))) ≤ 7207017 := by obtain ⟨-, -, -, -, -, -, -, -, -, -, -, -, -, -, -, -, -, -, -, -, -, -, -, -, -, -, -, -, -, -, -, -, -, -, -, -, z1, z2⟩ := hb (n + 1) _ _ hP3 (by omega); exact ⟨z1, z2⟩
  refine v_callSH (pc := 2795) C (c_L_share hG (g := g) (r := wm m (rL N sc o d)) (sc (5 * n + 1)) (sc (5 * n + 2)) (hsh _).1 (hsh _).2 (o := o) ((wm_at (by decide)).trans rL_91)) 4 wd_1175 wd_61 wd_1173 wd_1174 (by decide +kernel) (by decide) (by decide) rfl ([]) rfl (Nat.le_of_ble_eq_true rfl) ⟨by omega, by omega⟩ dL_law_2795 (fun v9 A_1 h9 hR9 => ?_)
  obtain ⟨rfl, hA_1, rfl⟩ := hR9
  refine v_st (k2 := ((170 + 30 * n + (vPh g + vPb m + vPw m)) + 2)) (n2 := ((3000 + 200 * n + 2 * (vPh g + vPb m + vPw m)) + 12)) (st2 := [.int (K_L_share (X_X11_share g (sc (5 * n + 1)) (sc (5 * n + 2))))]) rfl rfl rfl ?_
  refine v_lve (lv2 := [(5, .int (nI (5 * n))), (4, .ref (A_1 (92, 0))), (3, .ref (A_1 (91, 0))), (2, .ref (A_1 (40, 0))), (1, .ref (A_1 (0, 0))), (0, .ref (b))]) (by rw [hA_1 (92, 0) (Or.inr (Nat.le_of_ble_eq_true rfl)), hA_1 (91, 0) (Or.inr (Nat.le_of_ble_eq_true rfl)), hA_1 (40, 0) (Or.inr (Nat.le_of_ble_eq_true rfl)), hA_1 (0, 0) (Or.inl (Nat.le_of_ble_eq_true rfl))]) ?_
  refine v_h (h2 := wm m (w g (rL N sc (if X_X11_share g (sc (5 * n + 1)) (sc (5 * n + 2)) = 0 then vp_updL o 0 ((V_X11_share g (sc (5 * n + 1)) (sc (5 * n + 2))).toInt64) else o) d))) ((congrArg (w g) rL_ifo).trans w_wm.symm) ?_
  refine v_istore (lv2 := [(6, .int (K_L_share (X_X11_share g (sc (5 * n + 1)) (sc (5 * n + 2))))), (5, .int (nI (5 * n))), (4, .ref (A_1 (92, 0))), (3, .ref (A_1 (91, 0))), (2, .ref (A_1 (40, 0))), (1, .ref (A_1 (0, 0))), (0, .ref (b))]) (pc := 2798) C dL_law_2798 (by decide) rfl ?_
  refine v_aload_n (pc := 2800) C dL_law_2800 4 rfl rfl ?_
  refine v_aload_n (pc := 2801) C dL_law_2801 6 rfl rfl ?_
  refine v_iload (pc := 2802) C dL_law_2802 1 rfl ?_
  refine v_iconst (v := 1) (pc := 2804) C dL_law_2804 rfl ?_
  refine v_iadd (pc := 2805) C dL_law_2805 ?_
  refine v_sld (pc := 2806) C hX hbl hbA (ix_1 hn5 hN) dL_law_2806 ?_
  refine v_aload_n (pc := 2807) C dL_law_2807 6 rfl rfl ?_
  refine v_iload (pc := 2808) C dL_law_2808 1 rfl ?_
  refine v_iconst (v := 2) (pc := 2810) C dL_law_2810 rfl ?_
  refine v_iadd (pc := 2811) C dL_law_2811 ?_
  refine v_sld (pc := 2812) C hX hbl hbA (ix_2 hn5 hN) dL_law_2812 ?_
  refine v_callV (pc := 2813) C (40, 0) ck_40 rfl (c_X12_share hG (g := m) (r := w g (rL N sc (if X_X11_share g (sc (5 * n + 1)) (sc (5 * n + 2)) = 0 then vp_updL o 0 ((V_X11_share g (sc (5 * n + 1)) (sc (5 * n + 2))).toInt64) else o) d)) (sc (5 * n + 1)) (sc (5 * n + 2)) hu0 hu hg0 hg hf0 hf h5) 2 wd_1809 wd_68 wd_1806 wd_1807 wd_1808 (by decide +kernel) (by decide) (by decide) rfl ([]) rfl (Nat.le_of_ble_eq_true rfl) ⟨by omega, by omega⟩ dL_law_2813 (fun _ _ _ q => q.elim) (fun v9 A_2 h9 hR9 => ?_)
  obtain ⟨rfl, hA_2, rfl⟩ := hR9
  refine v_st (k2 := (((170 + 30 * n + (vPh g + vPb m + vPw m)) + 2) + 0)) (n2 := (((3000 + 200 * n + 2 * (vPh g + vPb m + vPw m)) + 12) + 0)) (st2 := [.int (V_X12_share m (sc (5 * n + 1)) (sc (5 * n + 2)))]) rfl rfl rfl ?_
  obtain rfl := hA_2.symm
  refine v_istore (lv2 := [(7, .int (V_X12_share m (sc (5 * n + 1)) (sc (5 * n + 2)))), (6, .int (K_L_share (X_X11_share g (sc (5 * n + 1)) (sc (5 * n + 2))))), (5, .int (nI (5 * n))), (4, .ref (A_1 (92, 0))), (3, .ref (A_1 (91, 0))), (2, .ref (A_1 (40, 0))), (1, .ref (A_1 (0, 0))), (0, .ref (b))]) (pc := 2816) C dL_law_2816 (by decide) rfl ?_
  refine v_aload_n (pc := 2818) C dL_law_2818 5 rfl rfl ?_
  refine v_callV (pc := 2819) C (40, 0) ck_40 rfl (c_X12_thrown hG (g := (S_X12_share m (sc (5 * n + 1)) (sc (5 * n + 2))))) 0 wd_1377 wd_68 wd_1374 wd_1375 wd_1376 (by decide +kernel) (by decide) (by decide) rfl ([]) rfl (Nat.le_of_ble_eq_true rfl) ⟨by omega, by omega⟩ dL_law_2819 (fun _ _ _ q => q.elim) (fun v9 A9 h9 hR9 => ?_)
  obtain ⟨rfl, hA9, rfl⟩ := hR9
  obtain rfl := hA9.symm
  refine v_st (k2 := (((170 + 30 * n + (vPh g + vPb m + vPw m)) + 2) + 0)) (n2 := (((3000 + 200 * n + 2 * (vPh g + vPb m + vPw m)) + 12) + 0)) (st2 := [.int (V_X12_thrown (S_X12_share m (sc (5 * n + 1)) (sc (5 * n + 2))))]) rfl rfl rfl ?_
  refine v_iload (pc := 2822) C dL_law_2822 1 rfl ?_
  refine v_icmp_eq (pc := 2824) (tgt := 2829) C dL_law_2824 (by decide) (fun c3 => ?_) (fun c3 => ?_)
  · skip
    refine v_iload (pc := 2829) C dL_law_2829 1 rfl ?_
    refine v_if_ne (pc := 2831) (tgt := 2846) C dL_law_2831 (by decide) (fun c4 => ?_) (fun c4 => ?_)
    · skip
      refine v_goto (tgt := 3502) (pc := 2846) C dL_law_2846 (by decide) ?_
      refine v_lv (lv2 := [(5, .int (nI (5 * n))), (4, .ref (A_1 (92, 0))), (3, .ref (A_1 (91, 0))), (2, .ref (A_1 (40, 0))), (1, .ref (A_1 (0, 0))), (0, .ref (b))]) [2, 3, 4, 5, 6, 7] rfl ?_
      refine v_h (h2 := w g (wm (S_X12_share m (sc (5 * n + 1)) (sc (5 * n + 2))) (rL N sc (if X_X11_share g (sc (5 * n + 1)) (sc (5 * n + 2)) = 0 then vp_updL o 0 ((V_X11_share g (sc (5 * n + 1)) (sc (5 * n + 2))).toInt64) else o) d))) w_wm ?_
      refine v_widen (k2 := (170 + 30 * (n + 1) + (vPh g + vPb (S_X12_share m (sc (5 * n + 1)) (sc (5 * n + 2))) + vPw (S_X12_share m (sc (5 * n + 1)) (sc (5 * n + 2)))))) (n2 := (3000 + 200 * (n + 1) + 2 * (vPh g + vPb (S_X12_share m (sc (5 * n + 1)) (sc (5 * n + 2))) + vPw (S_X12_share m (sc (5 * n + 1)) (sc (5 * n + 2)))))) (by omega) (by omega) ?_
      exact k A_1 g (S_X12_share m (sc (5 * n + 1)) (sc (5 * n + 2))) (if X_X11_share g (sc (5 * n + 1)) (sc (5 * n + 2)) = 0 then vp_updL o 0 ((V_X11_share g (sc (5 * n + 1)) (sc (5 * n + 2))).toInt64) else o) d (vAs_0 hA_1) hP3
    · skip
      have hX0 := kz_share (E_X_X11_share ..) c4
      have hVV := hP2 hX0
      refine v_aload_n (pc := 2834) C dL_law_2834 4 rfl rfl ?_
      refine v_iconst (v := 0) (pc := 2835) C dL_law_2835 rfl ?_
      refine v_lald (pc := 2836) C (91, 0) (v := (V_X11_share g (sc (5 * n + 1)) (sc (5 * n + 2))).toInt64) ((wm_at (by decide)).trans ((w_at (by decide)).trans rL_91)) (by simp only [vp_in_iff]; decide) ((congrFun (if_pos hX0) _).trans rfl) dL_law_2836 ?_
      refine v_iload (pc := 2837) C dL_law_2837 0 rfl ?_
      refine v_i2l (pc := 2839) C dL_law_2839 rfl ?_
      refine v_lcmp (pc := 2840) C dL_law_2840 ?_
      refine v_if_eq (pc := 2841) (tgt := 2846) C dL_law_2841 (by decide) (fun c5 => ?_) (fun c5 => ?_)
      · skip
        refine v_goto (tgt := 3502) (pc := 2846) C dL_law_2846 (by decide) ?_
        refine v_lv (lv2 := [(5, .int (nI (5 * n))), (4, .ref (A_1 (92, 0))), (3, .ref (A_1 (91, 0))), (2, .ref (A_1 (40, 0))), (1, .ref (A_1 (0, 0))), (0, .ref (b))]) [2, 3, 4, 5, 6, 7] rfl ?_
        refine v_h (h2 := w g (wm (S_X12_share m (sc (5 * n + 1)) (sc (5 * n + 2))) (rL N sc (if X_X11_share g (sc (5 * n + 1)) (sc (5 * n + 2)) = 0 then vp_updL o 0 ((V_X11_share g (sc (5 * n + 1)) (sc (5 * n + 2))).toInt64) else o) d))) w_wm ?_
        refine v_widen (k2 := (170 + 30 * (n + 1) + (vPh g + vPb (S_X12_share m (sc (5 * n + 1)) (sc (5 * n + 2))) + vPw (S_X12_share m (sc (5 * n + 1)) (sc (5 * n + 2)))))) (n2 := (3000 + 200 * (n + 1) + 2 * (vPh g + vPb (S_X12_share m (sc (5 * n + 1)) (sc (5 * n + 2))) + vPw (S_X12_share m (sc (5 * n + 1)) (sc (5 * n + 2)))))) (by omega) (by omega) ?_
        exact k A_1 g (S_X12_share m (sc (5 * n + 1)) (sc (5 * n + 2))) (if X_X11_share g (sc (5 * n + 1)) (sc (5 * n + 2)) = 0 then vp_updL o 0 ((V_X11_share g (sc (5 * n + 1)) (sc (5 * n + 2))).toInt64) else o) d (vAs_0 hA_1) hP3
      · skip
        exact absurd (by rw [hVV]; exact lg_self) c5
  · skip
    exact absurd (thrown_eq hP1) c3
set_option maxHeartbeats 4000000 in
set_option maxRecDepth 100000 in
theorem cs_collect {I : Nat → vS → vS → Prop} (hb : PZ_base I) (hp : PZ_collect I) {G : vG} {X : vX} {mn : String} (C : vC G X cL_law 9 RL (some .boolean) mn 2040 603072 7207017) {A : vN → Nat} {n : Nat} {g m : vS} {N : Nat} {sc : Nat → Int32} {o : Nat → Int64} {d : Nat → UInt64} {Q : State → Prop} {b : Nat} (hX : va_X b N sc X.2.2.2.2.1 X.2.2.2.2.1.heap) (hbl : b < X.2.2.2.2.1.heap.size) (hbA : ¬ vAd G b) (hi : I n g m) (hn5 : 5 * n + 5 ≤ N) (hN : N ≤ 2560) (k : ∀ (A2 : vN → Nat) (g2 m2 : vS) (o2 : Nat → Int64) (d2 : Nat → UInt64), vAs 1 82 A2 A → I (n + 1) g2 m2 → V G 9 X A2 (w g2 (wm m2 (rL N sc o2 d2))) (170 + 30 * (n + 1) + (vPh g2 + vPb m2 + vPw m2)) (3000 + 200 * (n + 1) + 2 * (vPh g2 + vPb m2 + vPw m2)) Q 3502 [(5, .int (nI (5 * n))), (4, .ref (A2 (92, 0))), (3, .ref (A2 (91, 0))), (2, .ref (A2 (40, 0))), (1, .ref (A2 (0, 0))), (0, .ref (b))] []) : V G 9 X A (w g (wm m (rL N sc o d))) (170 + 30 * n + (vPh g + vPb m + vPw m)) (3000 + 200 * n + 2 * (vPh g + vPb m + vPw m)) Q 2849 [(5, .int (nI (5 * n))), (4, .ref (A (92, 0))), (3, .ref (A (91, 0))), (2, .ref (A (40, 0))), (1, .ref (A (0, 0))), (0, .ref (b))] [] := by
  have hG := C.st
  obtain ⟨h103, h104, h105, hI1, hI3, hI4, hdr, hsh, hqu, hq9, hU6, hu0, hu, hg0, hg, hf0, hf, hl0, hl, hw0, hw, hc0, hc9, h1, h2, h3, h4, h5, h6, h7, h8, h9, hDE, h12, h13, hq10, hkc, hns⟩ := hb n g m hi (by omega)
  refine v_aload_n (pc := 2849) C dL_law_2849 4 rfl rfl ?_
  refine v_aload_n (pc := 2850) C dL_law_2850 5 rfl rfl ?_
  refine v_iload (pc := 2851) C dL_law_2851 0 rfl ?_
  refine v_iconst (v := 1) (pc := 2853) C dL_law_2853 rfl ?_
  refine v_iadd (pc := 2854) C dL_law_2854 ?_
  refine v_sld (pc := 2855) C hX hbl hbA (ix_1 hn5 hN) dL_law_2855 ?_
  refine v_aload_n (pc := 2856) C dL_law_2856 5 rfl rfl ?_
  refine v_iload (pc := 2857) C dL_law_2857 0 rfl ?_
  refine v_iconst (v := 2) (pc := 2859) C dL_law_2859 rfl ?_
  refine v_iadd (pc := 2860) C dL_law_2860 ?_
  refine v_sld (pc := 2861) C hX hbl hbA (ix_2 hn5 hN) dL_law_2861 ?_
  refine v_aload_n (pc := 2862) C dL_law_2862 2 rfl rfl ?_
  obtain ⟨hP1, hP2, hP3, hP4, hP5, hP6⟩ := hp n g m hi (by omega) (sc (5 * n + 1)) (sc (5 * n + 2))
  have hroom : (170 + 30 * (n + 1) + (vPh (S_X11_collect g (sc (5 * n + 1)) (sc (5 * n + 2))) + vPb (S_X12_collect m (sc (5 * n + 1)) (sc (5 * n + 2))) + vPw (S_X12_collect m (sc (5 * n + 1)) (sc (5 * n + 2))))) ≤ 603072 ∧ (3000 + 200 * (n + 1) + 2 * (vPh (S_X11_collect g (sc (5 * n + 1)) (sc (5 * n + 2))) + vPb (S_X12_collect m (sc (5 * n + 1)) (sc (5 * n + 2))) + vPw (S_X12_collect m (sc (5 * n + 1)) (sc (5 * n + 2))))) ≤ 7207017 := by obtain ⟨-, -, -, -, -, -, -, -, -, -, -, -, -, -, -, -, -, -, -, -, -, -, -, -, -, -, -, -, -, -, -, -, -, -, -, -, z1, z2⟩ := hb (n + 1) _ _ hP3 (by omega); exact ⟨z1, z2⟩
  refine v_callSH (pc := 2863) C (c_L_collect hG (g := g) (r := wm m (rL N sc o d)) (sc (5 * n + 1)) (sc (5 * n + 2)) (o := o) ((wm_at (by decide)).trans rL_91)) 4 wd_1193 wd_61 wd_1191 wd_1192 (by decide +kernel) (by decide) (by decide) rfl ([]) rfl (Nat.le_of_ble_eq_true rfl) ⟨by omega, by omega⟩ dL_law_2863 (fun v9 A_1 h9 hR9 => ?_)
  obtain ⟨rfl, hA_1, rfl⟩ := hR9
  refine v_st (k2 := ((170 + 30 * n + (vPh g + vPb m + vPw m)) + 1)) (n2 := ((3000 + 200 * n + 2 * (vPh g + vPb m + vPw m)) + 6)) (st2 := [.int (K_L_collect (X_X11_collect g (sc (5 * n + 1)) (sc (5 * n + 2))))]) rfl rfl rfl ?_
  refine v_lve (lv2 := [(5, .int (nI (5 * n))), (4, .ref (A_1 (92, 0))), (3, .ref (A_1 (91, 0))), (2, .ref (A_1 (40, 0))), (1, .ref (A_1 (0, 0))), (0, .ref (b))]) (by rw [hA_1 (92, 0) (Or.inr (Nat.le_of_ble_eq_true rfl)), hA_1 (91, 0) (Or.inr (Nat.le_of_ble_eq_true rfl)), hA_1 (40, 0) (Or.inr (Nat.le_of_ble_eq_true rfl)), hA_1 (0, 0) (Or.inl (Nat.le_of_ble_eq_true rfl))]) ?_
  refine v_h (h2 := wm m (w (S_X11_collect g (sc (5 * n + 1)) (sc (5 * n + 2))) (rL N sc (if X_X11_collect g (sc (5 * n + 1)) (sc (5 * n + 2)) = 0 then vp_updL o 0 ((V_X11_collect g (sc (5 * n + 1)) (sc (5 * n + 2))).toInt64) else o) d))) ((congrArg (w (S_X11_collect g (sc (5 * n + 1)) (sc (5 * n + 2)))) rL_ifo).trans w_wm.symm) ?_
  refine v_istore (lv2 := [(6, .int (K_L_collect (X_X11_collect g (sc (5 * n + 1)) (sc (5 * n + 2))))), (5, .int (nI (5 * n))), (4, .ref (A_1 (92, 0))), (3, .ref (A_1 (91, 0))), (2, .ref (A_1 (40, 0))), (1, .ref (A_1 (0, 0))), (0, .ref (b))]) (pc := 2866) C dL_law_2866 (by decide) rfl ?_
  refine v_aload_n (pc := 2868) C dL_law_2868 4 rfl rfl ?_
  refine v_aload_n (pc := 2869) C dL_law_2869 6 rfl rfl ?_
  refine v_iload (pc := 2870) C dL_law_2870 1 rfl ?_
  refine v_iconst (v := 1) (pc := 2872) C dL_law_2872 rfl ?_
  refine v_iadd (pc := 2873) C dL_law_2873 ?_
  refine v_sld (pc := 2874) C hX hbl hbA (ix_1 hn5 hN) dL_law_2874 ?_
  refine v_aload_n (pc := 2875) C dL_law_2875 6 rfl rfl ?_
  refine v_iload (pc := 2876) C dL_law_2876 1 rfl ?_
  refine v_iconst (v := 2) (pc := 2878) C dL_law_2878 rfl ?_
  refine v_iadd (pc := 2879) C dL_law_2879 ?_
  refine v_sld (pc := 2880) C hX hbl hbA (ix_2 hn5 hN) dL_law_2880 ?_
  refine v_callV (pc := 2881) C (40, 0) ck_40 rfl (c_X12_collect hG (g := m) (r := w (S_X11_collect g (sc (5 * n + 1)) (sc (5 * n + 2))) (rL N sc (if X_X11_collect g (sc (5 * n + 1)) (sc (5 * n + 2)) = 0 then vp_updL o 0 ((V_X11_collect g (sc (5 * n + 1)) (sc (5 * n + 2))).toInt64) else o) d)) (sc (5 * n + 1)) (sc (5 * n + 2)) hu0 hu hg0 hg hf0 hf) 2 wd_1816 wd_68 wd_1813 wd_1814 wd_1815 (by decide +kernel) (by decide) (by decide) rfl ([]) rfl (Nat.le_of_ble_eq_true rfl) ⟨by omega, by omega⟩ dL_law_2881 (fun _ _ _ q => q.elim) (fun v9 A_2 h9 hR9 => ?_)
  obtain ⟨rfl, hA_2, rfl⟩ := hR9
  refine v_st (k2 := (((170 + 30 * n + (vPh g + vPb m + vPw m)) + 1) + 0)) (n2 := (((3000 + 200 * n + 2 * (vPh g + vPb m + vPw m)) + 6) + 0)) (st2 := [.int (V_X12_collect m (sc (5 * n + 1)) (sc (5 * n + 2)))]) rfl rfl rfl ?_
  obtain rfl := hA_2.symm
  refine v_istore (lv2 := [(7, .int (V_X12_collect m (sc (5 * n + 1)) (sc (5 * n + 2)))), (6, .int (K_L_collect (X_X11_collect g (sc (5 * n + 1)) (sc (5 * n + 2))))), (5, .int (nI (5 * n))), (4, .ref (A_1 (92, 0))), (3, .ref (A_1 (91, 0))), (2, .ref (A_1 (40, 0))), (1, .ref (A_1 (0, 0))), (0, .ref (b))]) (pc := 2884) C dL_law_2884 (by decide) rfl ?_
  refine v_aload_n (pc := 2886) C dL_law_2886 5 rfl rfl ?_
  refine v_callV (pc := 2887) C (40, 0) ck_40 rfl (c_X12_thrown hG (g := (S_X12_collect m (sc (5 * n + 1)) (sc (5 * n + 2))))) 0 wd_1377 wd_68 wd_1374 wd_1375 wd_1376 (by decide +kernel) (by decide) (by decide) rfl ([]) rfl (Nat.le_of_ble_eq_true rfl) ⟨by omega, by omega⟩ dL_law_2887 (fun _ _ _ q => q.elim) (fun v9 A9 h9 hR9 => ?_)
  obtain ⟨rfl, hA9, rfl⟩ := hR9
  obtain rfl := hA9.symm
  refine v_st (k2 := (((170 + 30 * n + (vPh g + vPb m + vPw m)) + 1) + 0)) (n2 := (((3000 + 200 * n + 2 * (vPh g + vPb m + vPw m)) + 6) + 0)) (st2 := [.int (V_X12_thrown (S_X12_collect m (sc (5 * n + 1)) (sc (5 * n + 2))))]) rfl rfl rfl ?_
  refine v_iload (pc := 2890) C dL_law_2890 1 rfl ?_
  refine v_icmp_eq (pc := 2892) (tgt := 2897) C dL_law_2892 (by decide) (fun c3 => ?_) (fun c3 => ?_)
  · skip
    refine v_iload (pc := 2897) C dL_law_2897 1 rfl ?_
    refine v_if_ne (pc := 2899) (tgt := 2914) C dL_law_2899 (by decide) (fun c4 => ?_) (fun c4 => ?_)
    · skip
      refine v_goto (tgt := 3502) (pc := 2914) C dL_law_2914 (by decide) ?_
      refine v_lv (lv2 := [(5, .int (nI (5 * n))), (4, .ref (A_1 (92, 0))), (3, .ref (A_1 (91, 0))), (2, .ref (A_1 (40, 0))), (1, .ref (A_1 (0, 0))), (0, .ref (b))]) [2, 3, 4, 5, 6, 7] rfl ?_
      refine v_h (h2 := w (S_X11_collect g (sc (5 * n + 1)) (sc (5 * n + 2))) (wm (S_X12_collect m (sc (5 * n + 1)) (sc (5 * n + 2))) (rL N sc (if X_X11_collect g (sc (5 * n + 1)) (sc (5 * n + 2)) = 0 then vp_updL o 0 ((V_X11_collect g (sc (5 * n + 1)) (sc (5 * n + 2))).toInt64) else o) d))) w_wm ?_
      refine v_widen (k2 := (170 + 30 * (n + 1) + (vPh (S_X11_collect g (sc (5 * n + 1)) (sc (5 * n + 2))) + vPb (S_X12_collect m (sc (5 * n + 1)) (sc (5 * n + 2))) + vPw (S_X12_collect m (sc (5 * n + 1)) (sc (5 * n + 2)))))) (n2 := (3000 + 200 * (n + 1) + 2 * (vPh (S_X11_collect g (sc (5 * n + 1)) (sc (5 * n + 2))) + vPb (S_X12_collect m (sc (5 * n + 1)) (sc (5 * n + 2))) + vPw (S_X12_collect m (sc (5 * n + 1)) (sc (5 * n + 2)))))) (by omega) (by omega) ?_
      exact k A_1 (S_X11_collect g (sc (5 * n + 1)) (sc (5 * n + 2))) (S_X12_collect m (sc (5 * n + 1)) (sc (5 * n + 2))) (if X_X11_collect g (sc (5 * n + 1)) (sc (5 * n + 2)) = 0 then vp_updL o 0 ((V_X11_collect g (sc (5 * n + 1)) (sc (5 * n + 2))).toInt64) else o) d (vAs_0 hA_1) hP3
    · skip
      have hX0 := kz_collect (E_X_X11_collect ..) c4
      have hVV := hP2 hX0
      refine v_aload_n (pc := 2902) C dL_law_2902 4 rfl rfl ?_
      refine v_iconst (v := 0) (pc := 2903) C dL_law_2903 rfl ?_
      refine v_lald (pc := 2904) C (91, 0) (v := (V_X11_collect g (sc (5 * n + 1)) (sc (5 * n + 2))).toInt64) ((wm_at (by decide)).trans ((w_at (by decide)).trans rL_91)) (by simp only [vp_in_iff]; decide) ((congrFun (if_pos hX0) _).trans rfl) dL_law_2904 ?_
      refine v_iload (pc := 2905) C dL_law_2905 0 rfl ?_
      refine v_i2l (pc := 2907) C dL_law_2907 rfl ?_
      refine v_lcmp (pc := 2908) C dL_law_2908 ?_
      refine v_if_eq (pc := 2909) (tgt := 2914) C dL_law_2909 (by decide) (fun c5 => ?_) (fun c5 => ?_)
      · skip
        refine v_goto (tgt := 3502) (pc := 2914) C dL_law_2914 (by decide) ?_
        refine v_lv (lv2 := [(5, .int (nI (5 * n))), (4, .ref (A_1 (92, 0))), (3, .ref (A_1 (91, 0))), (2, .ref (A_1 (40, 0))), (1, .ref (A_1 (0, 0))), (0, .ref (b))]) [2, 3, 4, 5, 6, 7] rfl ?_
        refine v_h (h2 := w (S_X11_collect g (sc (5 * n + 1)) (sc (5 * n + 2))) (wm (S_X12_collect m (sc (5 * n + 1)) (sc (5 * n + 2))) (rL N sc (if X_X11_collect g (sc (5 * n + 1)) (sc (5 * n + 2)) = 0 then vp_updL o 0 ((V_X11_collect g (sc (5 * n + 1)) (sc (5 * n + 2))).toInt64) else o) d))) w_wm ?_
        refine v_widen (k2 := (170 + 30 * (n + 1) + (vPh (S_X11_collect g (sc (5 * n + 1)) (sc (5 * n + 2))) + vPb (S_X12_collect m (sc (5 * n + 1)) (sc (5 * n + 2))) + vPw (S_X12_collect m (sc (5 * n + 1)) (sc (5 * n + 2)))))) (n2 := (3000 + 200 * (n + 1) + 2 * (vPh (S_X11_collect g (sc (5 * n + 1)) (sc (5 * n + 2))) + vPb (S_X12_collect m (sc (5 * n + 1)) (sc (5 * n + 2))) + vPw (S_X12_collect m (sc (5 * n + 1)) (sc (5 * n + 2)))))) (by omega) (by omega) ?_
        exact k A_1 (S_X11_collect g (sc (5 * n + 1)) (sc (5 * n + 2))) (S_X12_collect m (sc (5 * n + 1)) (sc (5 * n + 2))) (if X_X11_collect g (sc (5 * n + 1)) (sc (5 * n + 2)) = 0 then vp_updL o 0 ((V_X11_collect g (sc (5 * n + 1)) (sc (5 * n + 2))).toInt64) else o) d (vAs_0 hA_1) hP3
      · skip
        exact absurd (by rw [hVV]; exact lg_self) c5
  · skip
    exact absurd (thrown_eq hP1) c3
set_option maxHeartbeats 4000000 in
set_option maxRecDepth 100000 in
theorem cs_recovered {I : Nat → vS → vS → Prop} (hb : PZ_base I) (hp : PZ_recovered I) {G : vG} {X : vX} {mn : String} (C : vC G X cL_law 9 RL (some .boolean) mn 2040 603072 7207017) {A : vN → Nat} {n : Nat} {g m : vS} {N : Nat} {sc : Nat → Int32} {o : Nat → Int64} {d : Nat → UInt64} {Q : State → Prop} {b : Nat} (hX : va_X b N sc X.2.2.2.2.1 X.2.2.2.2.1.heap) (hbl : b < X.2.2.2.2.1.heap.size) (hbA : ¬ vAd G b) (hi : I n g m) (hn5 : 5 * n + 5 ≤ N) (hN : N ≤ 2560) (k : ∀ (A2 : vN → Nat) (g2 m2 : vS) (o2 : Nat → Int64) (d2 : Nat → UInt64), vAs 1 82 A2 A → I (n + 1) g2 m2 → V G 9 X A2 (w g2 (wm m2 (rL N sc o2 d2))) (170 + 30 * (n + 1) + (vPh g2 + vPb m2 + vPw m2)) (3000 + 200 * (n + 1) + 2 * (vPh g2 + vPb m2 + vPw m2)) Q 3502 [(5, .int (nI (5 * n))), (4, .ref (A2 (92, 0))), (3, .ref (A2 (91, 0))), (2, .ref (A2 (40, 0))), (1, .ref (A2 (0, 0))), (0, .ref (b))] []) : V G 9 X A (w g (wm m (rL N sc o d))) (170 + 30 * n + (vPh g + vPb m + vPw m)) (3000 + 200 * n + 2 * (vPh g + vPb m + vPw m)) Q 2917 [(5, .int (nI (5 * n))), (4, .ref (A (92, 0))), (3, .ref (A (91, 0))), (2, .ref (A (40, 0))), (1, .ref (A (0, 0))), (0, .ref (b))] [] := by
  have hG := C.st
  obtain ⟨h103, h104, h105, hI1, hI3, hI4, hdr, hsh, hqu, hq9, hU6, hu0, hu, hg0, hg, hf0, hf, hl0, hl, hw0, hw, hc0, hc9, h1, h2, h3, h4, h5, h6, h7, h8, h9, hDE, h12, h13, hq10, hkc, hns⟩ := hb n g m hi (by omega)
  refine v_aload_n (pc := 2917) C dL_law_2917 4 rfl rfl ?_
  refine v_aload_n (pc := 2918) C dL_law_2918 2 rfl rfl ?_
  obtain ⟨hP1, hP2, hP3, hP4, hP5, hP6⟩ := hp n g m hi (by omega)
  have hroom : (170 + 30 * (n + 1) + (vPh g + vPb (S_X12_recovered m) + vPw (S_X12_recovered m))) ≤ 603072 ∧ (3000 + 200 * (n + 1) + 2 * (vPh g + vPb (S_X12_recovered m) + vPw (S_X12_recovered m))) ≤ 7207017 := by obtain ⟨-, -, -, -, -, -, -, -, -, -, -, -, -, -, -, -, -, -, -, -, -, -, -, -, -, -, -, -, -, -, -, -, -, -, -, -, z1, z2⟩ := hb (n + 1) _ _ hP3 (by omega); exact ⟨z1, z2⟩
  refine v_callSH (pc := 2919) C (c_L_recovered hG (g := g) (r := wm m (rL N sc o d))  (o := o) ((wm_at (by decide)).trans rL_91)) 2 wd_1209 wd_61 wd_1207 wd_1208 (by decide +kernel) (by decide) (by decide) rfl ([]) rfl (Nat.le_of_ble_eq_true rfl) ⟨by omega, by omega⟩ dL_law_2919 (fun v9 A_1 h9 hR9 => ?_)
  obtain ⟨rfl, hA_1, rfl⟩ := hR9
  refine v_st (k2 := ((170 + 30 * n + (vPh g + vPb m + vPw m)) + 1)) (n2 := ((3000 + 200 * n + 2 * (vPh g + vPb m + vPw m)) + 6)) (st2 := [.int (K_L_recovered (X_X11_recovered g))]) rfl rfl rfl ?_
  refine v_lve (lv2 := [(5, .int (nI (5 * n))), (4, .ref (A_1 (92, 0))), (3, .ref (A_1 (91, 0))), (2, .ref (A_1 (40, 0))), (1, .ref (A_1 (0, 0))), (0, .ref (b))]) (by rw [hA_1 (92, 0) (Or.inr (Nat.le_of_ble_eq_true rfl)), hA_1 (91, 0) (Or.inr (Nat.le_of_ble_eq_true rfl)), hA_1 (40, 0) (Or.inr (Nat.le_of_ble_eq_true rfl)), hA_1 (0, 0) (Or.inl (Nat.le_of_ble_eq_true rfl))]) ?_
  refine v_h (h2 := wm m (w g (rL N sc (if X_X11_recovered g = 0 then vp_updL o 0 ((V_X11_recovered g).toInt64) else o) d))) ((congrArg (w g) rL_ifo).trans w_wm.symm) ?_
  refine v_istore (lv2 := [(6, .int (K_L_recovered (X_X11_recovered g))), (5, .int (nI (5 * n))), (4, .ref (A_1 (92, 0))), (3, .ref (A_1 (91, 0))), (2, .ref (A_1 (40, 0))), (1, .ref (A_1 (0, 0))), (0, .ref (b))]) (pc := 2922) C dL_law_2922 (by decide) rfl ?_
  refine v_aload_n (pc := 2924) C dL_law_2924 4 rfl rfl ?_
  refine v_callV (pc := 2925) C (40, 0) ck_40 rfl (c_X12_recovered hG (g := m) (r := w g (rL N sc (if X_X11_recovered g = 0 then vp_updL o 0 ((V_X11_recovered g).toInt64) else o) d)) ) 0 wd_1825 wd_68 wd_1822 wd_1823 wd_1824 (by decide +kernel) (by decide) (by decide) rfl ([]) rfl (Nat.le_of_ble_eq_true rfl) ⟨by omega, by omega⟩ dL_law_2925 (fun _ _ _ q => q.elim) (fun v9 A_2 h9 hR9 => ?_)
  obtain ⟨rfl, hA_2, rfl⟩ := hR9
  refine v_st (k2 := (((170 + 30 * n + (vPh g + vPb m + vPw m)) + 1) + 0)) (n2 := (((3000 + 200 * n + 2 * (vPh g + vPb m + vPw m)) + 6) + 0)) (st2 := [.int (V_X12_recovered m)]) rfl rfl rfl ?_
  obtain rfl := hA_2.symm
  refine v_istore (lv2 := [(7, .int (V_X12_recovered m)), (6, .int (K_L_recovered (X_X11_recovered g))), (5, .int (nI (5 * n))), (4, .ref (A_1 (92, 0))), (3, .ref (A_1 (91, 0))), (2, .ref (A_1 (40, 0))), (1, .ref (A_1 (0, 0))), (0, .ref (b))]) (pc := 2928) C dL_law_2928 (by decide) rfl ?_
  refine v_aload_n (pc := 2930) C dL_law_2930 5 rfl rfl ?_
  refine v_callV (pc := 2931) C (40, 0) ck_40 rfl (c_X12_thrown hG (g := (S_X12_recovered m))) 0 wd_1377 wd_68 wd_1374 wd_1375 wd_1376 (by decide +kernel) (by decide) (by decide) rfl ([]) rfl (Nat.le_of_ble_eq_true rfl) ⟨by omega, by omega⟩ dL_law_2931 (fun _ _ _ q => q.elim) (fun v9 A9 h9 hR9 => ?_)
  obtain ⟨rfl, hA9, rfl⟩ := hR9
  obtain rfl := hA9.symm
  refine v_st (k2 := (((170 + 30 * n + (vPh g + vPb m + vPw m)) + 1) + 0)) (n2 := (((3000 + 200 * n + 2 * (vPh g + vPb m + vPw m)) + 6) + 0)) (st2 := [.int (V_X12_thrown (S_X12_recovered m))]) rfl rfl rfl ?_
  refine v_iload (pc := 2934) C dL_law_2934 1 rfl ?_
  refine v_icmp_eq (pc := 2936) (tgt := 2941) C dL_law_2936 (by decide) (fun c3 => ?_) (fun c3 => ?_)
  · skip
    refine v_iload (pc := 2941) C dL_law_2941 1 rfl ?_
    refine v_if_ne (pc := 2943) (tgt := 2958) C dL_law_2943 (by decide) (fun c4 => ?_) (fun c4 => ?_)
    · skip
      refine v_goto (tgt := 3502) (pc := 2958) C dL_law_2958 (by decide) ?_
      refine v_lv (lv2 := [(5, .int (nI (5 * n))), (4, .ref (A_1 (92, 0))), (3, .ref (A_1 (91, 0))), (2, .ref (A_1 (40, 0))), (1, .ref (A_1 (0, 0))), (0, .ref (b))]) [2, 3, 4, 5, 6, 7] rfl ?_
      refine v_h (h2 := w g (wm (S_X12_recovered m) (rL N sc (if X_X11_recovered g = 0 then vp_updL o 0 ((V_X11_recovered g).toInt64) else o) d))) w_wm ?_
      refine v_widen (k2 := (170 + 30 * (n + 1) + (vPh g + vPb (S_X12_recovered m) + vPw (S_X12_recovered m)))) (n2 := (3000 + 200 * (n + 1) + 2 * (vPh g + vPb (S_X12_recovered m) + vPw (S_X12_recovered m)))) (by omega) (by omega) ?_
      exact k A_1 g (S_X12_recovered m) (if X_X11_recovered g = 0 then vp_updL o 0 ((V_X11_recovered g).toInt64) else o) d (vAs_0 hA_1) hP3
    · skip
      have hX0 := kz_recovered (E_X_X11_recovered ..) c4
      have hVV := hP2 hX0
      refine v_aload_n (pc := 2946) C dL_law_2946 4 rfl rfl ?_
      refine v_iconst (v := 0) (pc := 2947) C dL_law_2947 rfl ?_
      refine v_lald (pc := 2948) C (91, 0) (v := (V_X11_recovered g).toInt64) ((wm_at (by decide)).trans ((w_at (by decide)).trans rL_91)) (by simp only [vp_in_iff]; decide) ((congrFun (if_pos hX0) _).trans rfl) dL_law_2948 ?_
      refine v_iload (pc := 2949) C dL_law_2949 0 rfl ?_
      refine v_i2l (pc := 2951) C dL_law_2951 rfl ?_
      refine v_lcmp (pc := 2952) C dL_law_2952 ?_
      refine v_if_eq (pc := 2953) (tgt := 2958) C dL_law_2953 (by decide) (fun c5 => ?_) (fun c5 => ?_)
      · skip
        refine v_goto (tgt := 3502) (pc := 2958) C dL_law_2958 (by decide) ?_
        refine v_lv (lv2 := [(5, .int (nI (5 * n))), (4, .ref (A_1 (92, 0))), (3, .ref (A_1 (91, 0))), (2, .ref (A_1 (40, 0))), (1, .ref (A_1 (0, 0))), (0, .ref (b))]) [2, 3, 4, 5, 6, 7] rfl ?_
        refine v_h (h2 := w g (wm (S_X12_recovered m) (rL N sc (if X_X11_recovered g = 0 then vp_updL o 0 ((V_X11_recovered g).toInt64) else o) d))) w_wm ?_
        refine v_widen (k2 := (170 + 30 * (n + 1) + (vPh g + vPb (S_X12_recovered m) + vPw (S_X12_recovered m)))) (n2 := (3000 + 200 * (n + 1) + 2 * (vPh g + vPb (S_X12_recovered m) + vPw (S_X12_recovered m)))) (by omega) (by omega) ?_
        exact k A_1 g (S_X12_recovered m) (if X_X11_recovered g = 0 then vp_updL o 0 ((V_X11_recovered g).toInt64) else o) d (vAs_0 hA_1) hP3
      · skip
        exact absurd (by rw [hVV]; exact lg_self) c5
  · skip
    exact absurd (thrown_eq hP1) c3
set_option maxHeartbeats 4000000 in
set_option maxRecDepth 100000 in
theorem cs_drop {I : Nat → vS → vS → Prop} (hb : PZ_base I) (hp : PZ_drop I) {G : vG} {X : vX} {mn : String} (C : vC G X cL_law 9 RL (some .boolean) mn 2040 603072 7207017) {A : vN → Nat} {n : Nat} {g m : vS} {N : Nat} {sc : Nat → Int32} {o : Nat → Int64} {d : Nat → UInt64} {Q : State → Prop} {b : Nat} (hX : va_X b N sc X.2.2.2.2.1 X.2.2.2.2.1.heap) (hbl : b < X.2.2.2.2.1.heap.size) (hbA : ¬ vAd G b) (hi : I n g m) (hn5 : 5 * n + 5 ≤ N) (hN : N ≤ 2560) (k : ∀ (A2 : vN → Nat) (g2 m2 : vS) (o2 : Nat → Int64) (d2 : Nat → UInt64), vAs 1 82 A2 A → I (n + 1) g2 m2 → V G 9 X A2 (w g2 (wm m2 (rL N sc o2 d2))) (170 + 30 * (n + 1) + (vPh g2 + vPb m2 + vPw m2)) (3000 + 200 * (n + 1) + 2 * (vPh g2 + vPb m2 + vPw m2)) Q 3502 [(5, .int (nI (5 * n))), (4, .ref (A2 (92, 0))), (3, .ref (A2 (91, 0))), (2, .ref (A2 (40, 0))), (1, .ref (A2 (0, 0))), (0, .ref (b))] []) : V G 9 X A (w g (wm m (rL N sc o d))) (170 + 30 * n + (vPh g + vPb m + vPw m)) (3000 + 200 * n + 2 * (vPh g + vPb m + vPw m)) Q 2961 [(5, .int (nI (5 * n))), (4, .ref (A (92, 0))), (3, .ref (A (91, 0))), (2, .ref (A (40, 0))), (1, .ref (A (0, 0))), (0, .ref (b))] [] := by
  have hG := C.st
  obtain ⟨h103, h104, h105, hI1, hI3, hI4, hdr, hsh, hqu, hq9, hU6, hu0, hu, hg0, hg, hf0, hf, hl0, hl, hw0, hw, hc0, hc9, h1, h2, h3, h4, h5, h6, h7, h8, h9, hDE, h12, h13, hq10, hkc, hns⟩ := hb n g m hi (by omega)
  refine v_aload_n (pc := 2961) C dL_law_2961 4 rfl rfl ?_
  obtain ⟨hPV, hP3, hP4, hP5, hP6⟩ := hp n g m hi (by omega)
  have hroom : (170 + 30 * (n + 1) + (vPh (S_X11_drop g) + vPb (S_X12_drop m) + vPw (S_X12_drop m))) ≤ 603072 ∧ (3000 + 200 * (n + 1) + 2 * (vPh (S_X11_drop g) + vPb (S_X12_drop m) + vPw (S_X12_drop m))) ≤ 7207017 := by obtain ⟨-, -, -, -, -, -, -, -, -, -, -, -, -, -, -, -, -, -, -, -, -, -, -, -, -, -, -, -, -, -, -, -, -, -, -, -, z1, z2⟩ := hb (n + 1) _ _ hP3 (by omega); exact ⟨z1, z2⟩
  refine v_callV (pc := 2962) C (0, 0) ck_0 rfl (c_X11_drop hG (g := g) ) 0 wd_280 wd_62 wd_277 wd_278 wd_279 (by decide +kernel) (by decide) (by decide) rfl ([]) rfl (Nat.le_of_ble_eq_true rfl) ⟨by omega, by omega⟩ dL_law_2962 (fun _ _ _ q => q.elim) (fun v9 A9 h9 hR9 => ?_)
  obtain ⟨rfl, hA9, rfl⟩ := hR9
  obtain rfl := hA9.symm
  refine v_st (k2 := ((170 + 30 * n + (vPh g + vPb m + vPw m)) + 0)) (n2 := ((3000 + 200 * n + 2 * (vPh g + vPb m + vPw m)) + 0)) (st2 := [.int (V_X11_drop g)]) rfl rfl rfl ?_
  refine v_h (h2 := wm m (w (S_X11_drop g) (rL N sc o d))) w_wm.symm ?_
  refine v_aload_n (pc := 2965) C dL_law_2965 3 rfl rfl ?_
  refine v_callV (pc := 2966) C (40, 0) ck_40 rfl (c_X12_drop hG (g := m) (r := w (S_X11_drop g) (rL N sc o d)) ) 0 wd_1833 wd_68 wd_1830 wd_1831 wd_1832 (by decide +kernel) (by decide) (by decide) rfl ([.int (V_X11_drop g)]) rfl (Nat.le_of_ble_eq_true rfl) ⟨by omega, by omega⟩ dL_law_2966 (fun _ _ _ q => q.elim) (fun v9 A_1 h9 hR9 => ?_)
  obtain ⟨rfl, hA_1, rfl⟩ := hR9
  refine v_st (k2 := (((170 + 30 * n + (vPh g + vPb m + vPw m)) + 0) + 0)) (n2 := (((3000 + 200 * n + 2 * (vPh g + vPb m + vPw m)) + 0) + 0)) (st2 := [.int (V_X12_drop m), .int (V_X11_drop g)]) rfl rfl rfl ?_
  obtain rfl := hA_1.symm
  refine v_icmp_eq (pc := 2969) (tgt := 3502) C dL_law_2969 (by decide) (fun c2 => ?_) (fun c2 => ?_)
  · skip
    refine v_lv (lv2 := [(5, .int (nI (5 * n))), (4, .ref (A (92, 0))), (3, .ref (A (91, 0))), (2, .ref (A (40, 0))), (1, .ref (A (0, 0))), (0, .ref (b))]) [0, 1, 2, 3, 4, 5] rfl ?_
    refine v_h (h2 := w (S_X11_drop g) (wm (S_X12_drop m) (rL N sc o d))) w_wm ?_
    refine v_widen (k2 := (170 + 30 * (n + 1) + (vPh (S_X11_drop g) + vPb (S_X12_drop m) + vPw (S_X12_drop m)))) (n2 := (3000 + 200 * (n + 1) + 2 * (vPh (S_X11_drop g) + vPb (S_X12_drop m) + vPw (S_X12_drop m)))) (by omega) (by omega) ?_
    exact k A (S_X11_drop g) (S_X12_drop m) o d vAs_r hP3
  · skip
    exact absurd hPV c2
set_option maxHeartbeats 4000000 in
set_option maxRecDepth 100000 in
theorem cs_goAway {I : Nat → vS → vS → Prop} (hb : PZ_base I) (hp : PZ_goAway I) {G : vG} {X : vX} {mn : String} (C : vC G X cL_law 9 RL (some .boolean) mn 2040 603072 7207017) {A : vN → Nat} {n : Nat} {g m : vS} {N : Nat} {sc : Nat → Int32} {o : Nat → Int64} {d : Nat → UInt64} {Q : State → Prop} {b : Nat} (hX : va_X b N sc X.2.2.2.2.1 X.2.2.2.2.1.heap) (hbl : b < X.2.2.2.2.1.heap.size) (hbA : ¬ vAd G b) (hi : I n g m) (hn5 : 5 * n + 5 ≤ N) (hN : N ≤ 2560) (k : ∀ (A2 : vN → Nat) (g2 m2 : vS) (o2 : Nat → Int64) (d2 : Nat → UInt64), vAs 1 82 A2 A → I (n + 1) g2 m2 → V G 9 X A2 (w g2 (wm m2 (rL N sc o2 d2))) (170 + 30 * (n + 1) + (vPh g2 + vPb m2 + vPw m2)) (3000 + 200 * (n + 1) + 2 * (vPh g2 + vPb m2 + vPw m2)) Q 3502 [(5, .int (nI (5 * n))), (4, .ref (A2 (92, 0))), (3, .ref (A2 (91, 0))), (2, .ref (A2 (40, 0))), (1, .ref (A2 (0, 0))), (0, .ref (b))] []) : V G 9 X A (w g (wm m (rL N sc o d))) (170 + 30 * n + (vPh g + vPb m + vPw m)) (3000 + 200 * n + 2 * (vPh g + vPb m + vPw m)) Q 2974 [(5, .int (nI (5 * n))), (4, .ref (A (92, 0))), (3, .ref (A (91, 0))), (2, .ref (A (40, 0))), (1, .ref (A (0, 0))), (0, .ref (b))] [] := by
  have hG := C.st
  obtain ⟨h103, h104, h105, hI1, hI3, hI4, hdr, hsh, hqu, hq9, hU6, hu0, hu, hg0, hg, hf0, hf, hl0, hl, hw0, hw, hc0, hc9, h1, h2, h3, h4, h5, h6, h7, h8, h9, hDE, h12, h13, hq10, hkc, hns⟩ := hb n g m hi (by omega)
  refine v_aload_n (pc := 2974) C dL_law_2974 4 rfl rfl ?_
  refine v_aload_n (pc := 2975) C dL_law_2975 5 rfl rfl ?_
  refine v_iload (pc := 2976) C dL_law_2976 0 rfl ?_
  refine v_iconst (v := 1) (pc := 2978) C dL_law_2978 rfl ?_
  refine v_iadd (pc := 2979) C dL_law_2979 ?_
  refine v_sld (pc := 2980) C hX hbl hbA (ix_1 hn5 hN) dL_law_2980 ?_
  refine v_aload_n (pc := 2981) C dL_law_2981 2 rfl rfl ?_
  obtain ⟨hP1, hP2, hP3, hP4, hP5, hP6⟩ := hp n g m hi (by omega) (sc (5 * n + 1))
  have hroom : (170 + 30 * (n + 1) + (vPh (S_X11_goAway g (sc (5 * n + 1))) + vPb (S_X12_goAway m (sc (5 * n + 1))) + vPw (S_X12_goAway m (sc (5 * n + 1))))) ≤ 603072 ∧ (3000 + 200 * (n + 1) + 2 * (vPh (S_X11_goAway g (sc (5 * n + 1))) + vPb (S_X12_goAway m (sc (5 * n + 1))) + vPw (S_X12_goAway m (sc (5 * n + 1))))) ≤ 7207017 := by obtain ⟨-, -, -, -, -, -, -, -, -, -, -, -, -, -, -, -, -, -, -, -, -, -, -, -, -, -, -, -, -, -, -, -, -, -, -, -, z1, z2⟩ := hb (n + 1) _ _ hP3 (by omega); exact ⟨z1, z2⟩
  refine v_callSH (pc := 2982) C (c_L_goAway hG (g := g) (r := wm m (rL N sc o d)) (sc (5 * n + 1)) (o := o) ((wm_at (by decide)).trans rL_91)) 3 wd_1229 wd_61 wd_1227 wd_1228 (by decide +kernel) (by decide) (by decide) rfl ([]) rfl (Nat.le_of_ble_eq_true rfl) ⟨by omega, by omega⟩ dL_law_2982 (fun v9 A_1 h9 hR9 => ?_)
  obtain ⟨rfl, hA_1, rfl⟩ := hR9
  refine v_st (k2 := ((170 + 30 * n + (vPh g + vPb m + vPw m)) + 2)) (n2 := ((3000 + 200 * n + 2 * (vPh g + vPb m + vPw m)) + 12)) (st2 := [.int (K_L_goAway (X_X11_goAway g (sc (5 * n + 1))))]) rfl rfl rfl ?_
  refine v_lve (lv2 := [(5, .int (nI (5 * n))), (4, .ref (A_1 (92, 0))), (3, .ref (A_1 (91, 0))), (2, .ref (A_1 (40, 0))), (1, .ref (A_1 (0, 0))), (0, .ref (b))]) (by rw [hA_1 (92, 0) (Or.inr (Nat.le_of_ble_eq_true rfl)), hA_1 (91, 0) (Or.inr (Nat.le_of_ble_eq_true rfl)), hA_1 (40, 0) (Or.inr (Nat.le_of_ble_eq_true rfl)), hA_1 (0, 0) (Or.inl (Nat.le_of_ble_eq_true rfl))]) ?_
  refine v_h (h2 := wm m (w (S_X11_goAway g (sc (5 * n + 1))) (rL N sc (if X_X11_goAway g (sc (5 * n + 1)) = 0 then vp_updL o 0 ((V_X11_goAway g (sc (5 * n + 1))).toInt64) else o) d))) ((congrArg (w (S_X11_goAway g (sc (5 * n + 1)))) rL_ifo).trans w_wm.symm) ?_
  refine v_istore (lv2 := [(6, .int (K_L_goAway (X_X11_goAway g (sc (5 * n + 1))))), (5, .int (nI (5 * n))), (4, .ref (A_1 (92, 0))), (3, .ref (A_1 (91, 0))), (2, .ref (A_1 (40, 0))), (1, .ref (A_1 (0, 0))), (0, .ref (b))]) (pc := 2985) C dL_law_2985 (by decide) rfl ?_
  refine v_aload_n (pc := 2987) C dL_law_2987 4 rfl rfl ?_
  refine v_aload_n (pc := 2988) C dL_law_2988 6 rfl rfl ?_
  refine v_iload (pc := 2989) C dL_law_2989 1 rfl ?_
  refine v_iconst (v := 1) (pc := 2991) C dL_law_2991 rfl ?_
  refine v_iadd (pc := 2992) C dL_law_2992 ?_
  refine v_sld (pc := 2993) C hX hbl hbA (ix_1 hn5 hN) dL_law_2993 ?_
  refine v_callV (pc := 2994) C (40, 0) ck_40 rfl (c_X12_goAway hG (g := m) (r := w (S_X11_goAway g (sc (5 * n + 1))) (rL N sc (if X_X11_goAway g (sc (5 * n + 1)) = 0 then vp_updL o 0 ((V_X11_goAway g (sc (5 * n + 1))).toInt64) else o) d)) (sc (5 * n + 1)) hu0 hu hg0 hg hf0 hf) 1 wd_1837 wd_68 wd_1834 wd_1835 wd_1836 (by decide +kernel) (by decide) (by decide) rfl ([]) rfl (Nat.le_of_ble_eq_true rfl) ⟨by omega, by omega⟩ dL_law_2994 (fun _ _ _ q => q.elim) (fun v9 A_2 h9 hR9 => ?_)
  obtain ⟨rfl, hA_2, rfl⟩ := hR9
  refine v_st (k2 := (((170 + 30 * n + (vPh g + vPb m + vPw m)) + 2) + 0)) (n2 := (((3000 + 200 * n + 2 * (vPh g + vPb m + vPw m)) + 12) + 0)) (st2 := [.int (V_X12_goAway m (sc (5 * n + 1)))]) rfl rfl rfl ?_
  obtain rfl := hA_2.symm
  refine v_istore (lv2 := [(7, .int (V_X12_goAway m (sc (5 * n + 1)))), (6, .int (K_L_goAway (X_X11_goAway g (sc (5 * n + 1))))), (5, .int (nI (5 * n))), (4, .ref (A_1 (92, 0))), (3, .ref (A_1 (91, 0))), (2, .ref (A_1 (40, 0))), (1, .ref (A_1 (0, 0))), (0, .ref (b))]) (pc := 2997) C dL_law_2997 (by decide) rfl ?_
  refine v_aload_n (pc := 2999) C dL_law_2999 5 rfl rfl ?_
  refine v_callV (pc := 3000) C (40, 0) ck_40 rfl (c_X12_thrown hG (g := (S_X12_goAway m (sc (5 * n + 1))))) 0 wd_1377 wd_68 wd_1374 wd_1375 wd_1376 (by decide +kernel) (by decide) (by decide) rfl ([]) rfl (Nat.le_of_ble_eq_true rfl) ⟨by omega, by omega⟩ dL_law_3000 (fun _ _ _ q => q.elim) (fun v9 A9 h9 hR9 => ?_)
  obtain ⟨rfl, hA9, rfl⟩ := hR9
  obtain rfl := hA9.symm
  refine v_st (k2 := (((170 + 30 * n + (vPh g + vPb m + vPw m)) + 2) + 0)) (n2 := (((3000 + 200 * n + 2 * (vPh g + vPb m + vPw m)) + 12) + 0)) (st2 := [.int (V_X12_thrown (S_X12_goAway m (sc (5 * n + 1))))]) rfl rfl rfl ?_
  refine v_iload (pc := 3003) C dL_law_3003 1 rfl ?_
  refine v_icmp_eq (pc := 3005) (tgt := 3010) C dL_law_3005 (by decide) (fun c3 => ?_) (fun c3 => ?_)
  · skip
    refine v_iload (pc := 3010) C dL_law_3010 1 rfl ?_
    refine v_if_ne (pc := 3012) (tgt := 3027) C dL_law_3012 (by decide) (fun c4 => ?_) (fun c4 => ?_)
    · skip
      refine v_goto (tgt := 3502) (pc := 3027) C dL_law_3027 (by decide) ?_
      refine v_lv (lv2 := [(5, .int (nI (5 * n))), (4, .ref (A_1 (92, 0))), (3, .ref (A_1 (91, 0))), (2, .ref (A_1 (40, 0))), (1, .ref (A_1 (0, 0))), (0, .ref (b))]) [2, 3, 4, 5, 6, 7] rfl ?_
      refine v_h (h2 := w (S_X11_goAway g (sc (5 * n + 1))) (wm (S_X12_goAway m (sc (5 * n + 1))) (rL N sc (if X_X11_goAway g (sc (5 * n + 1)) = 0 then vp_updL o 0 ((V_X11_goAway g (sc (5 * n + 1))).toInt64) else o) d))) w_wm ?_
      refine v_widen (k2 := (170 + 30 * (n + 1) + (vPh (S_X11_goAway g (sc (5 * n + 1))) + vPb (S_X12_goAway m (sc (5 * n + 1))) + vPw (S_X12_goAway m (sc (5 * n + 1)))))) (n2 := (3000 + 200 * (n + 1) + 2 * (vPh (S_X11_goAway g (sc (5 * n + 1))) + vPb (S_X12_goAway m (sc (5 * n + 1))) + vPw (S_X12_goAway m (sc (5 * n + 1)))))) (by omega) (by omega) ?_
      exact k A_1 (S_X11_goAway g (sc (5 * n + 1))) (S_X12_goAway m (sc (5 * n + 1))) (if X_X11_goAway g (sc (5 * n + 1)) = 0 then vp_updL o 0 ((V_X11_goAway g (sc (5 * n + 1))).toInt64) else o) d (vAs_0 hA_1) hP3
    · skip
      have hX0 := kz_goAway (E_X_X11_goAway ..) c4
      have hVV := hP2 hX0
      refine v_aload_n (pc := 3015) C dL_law_3015 4 rfl rfl ?_
      refine v_iconst (v := 0) (pc := 3016) C dL_law_3016 rfl ?_
      refine v_lald (pc := 3017) C (91, 0) (v := (V_X11_goAway g (sc (5 * n + 1))).toInt64) ((wm_at (by decide)).trans ((w_at (by decide)).trans rL_91)) (by simp only [vp_in_iff]; decide) ((congrFun (if_pos hX0) _).trans rfl) dL_law_3017 ?_
      refine v_iload (pc := 3018) C dL_law_3018 0 rfl ?_
      refine v_i2l (pc := 3020) C dL_law_3020 rfl ?_
      refine v_lcmp (pc := 3021) C dL_law_3021 ?_
      refine v_if_eq (pc := 3022) (tgt := 3027) C dL_law_3022 (by decide) (fun c5 => ?_) (fun c5 => ?_)
      · skip
        refine v_goto (tgt := 3502) (pc := 3027) C dL_law_3027 (by decide) ?_
        refine v_lv (lv2 := [(5, .int (nI (5 * n))), (4, .ref (A_1 (92, 0))), (3, .ref (A_1 (91, 0))), (2, .ref (A_1 (40, 0))), (1, .ref (A_1 (0, 0))), (0, .ref (b))]) [2, 3, 4, 5, 6, 7] rfl ?_
        refine v_h (h2 := w (S_X11_goAway g (sc (5 * n + 1))) (wm (S_X12_goAway m (sc (5 * n + 1))) (rL N sc (if X_X11_goAway g (sc (5 * n + 1)) = 0 then vp_updL o 0 ((V_X11_goAway g (sc (5 * n + 1))).toInt64) else o) d))) w_wm ?_
        refine v_widen (k2 := (170 + 30 * (n + 1) + (vPh (S_X11_goAway g (sc (5 * n + 1))) + vPb (S_X12_goAway m (sc (5 * n + 1))) + vPw (S_X12_goAway m (sc (5 * n + 1)))))) (n2 := (3000 + 200 * (n + 1) + 2 * (vPh (S_X11_goAway g (sc (5 * n + 1))) + vPb (S_X12_goAway m (sc (5 * n + 1))) + vPw (S_X12_goAway m (sc (5 * n + 1)))))) (by omega) (by omega) ?_
        exact k A_1 (S_X11_goAway g (sc (5 * n + 1))) (S_X12_goAway m (sc (5 * n + 1))) (if X_X11_goAway g (sc (5 * n + 1)) = 0 then vp_updL o 0 ((V_X11_goAway g (sc (5 * n + 1))).toInt64) else o) d (vAs_0 hA_1) hP3
      · skip
        exact absurd (by rw [hVV]; exact lg_self) c5
  · skip
    exact absurd (thrown_eq hP1) c3
set_option maxHeartbeats 4000000 in
set_option maxRecDepth 100000 in
theorem cs_draft {I : Nat → vS → vS → Prop} (hb : PZ_base I) (hp : PZ_draft I) {G : vG} {X : vX} {mn : String} (C : vC G X cL_law 9 RL (some .boolean) mn 2040 603072 7207017) {A : vN → Nat} {n : Nat} {g m : vS} {N : Nat} {sc : Nat → Int32} {o : Nat → Int64} {d : Nat → UInt64} {Q : State → Prop} {b : Nat} (hX : va_X b N sc X.2.2.2.2.1 X.2.2.2.2.1.heap) (hbl : b < X.2.2.2.2.1.heap.size) (hbA : ¬ vAd G b) (hi : I n g m) (hn5 : 5 * n + 5 ≤ N) (hN : N ≤ 2560) (k : ∀ (A2 : vN → Nat) (g2 m2 : vS) (o2 : Nat → Int64) (d2 : Nat → UInt64), vAs 1 82 A2 A → I (n + 1) g2 m2 → V G 9 X A2 (w g2 (wm m2 (rL N sc o2 d2))) (170 + 30 * (n + 1) + (vPh g2 + vPb m2 + vPw m2)) (3000 + 200 * (n + 1) + 2 * (vPh g2 + vPb m2 + vPw m2)) Q 3502 [(5, .int (nI (5 * n))), (4, .ref (A2 (92, 0))), (3, .ref (A2 (91, 0))), (2, .ref (A2 (40, 0))), (1, .ref (A2 (0, 0))), (0, .ref (b))] []) : V G 9 X A (w g (wm m (rL N sc o d))) (170 + 30 * n + (vPh g + vPb m + vPw m)) (3000 + 200 * n + 2 * (vPh g + vPb m + vPw m)) Q 3030 [(5, .int (nI (5 * n))), (4, .ref (A (92, 0))), (3, .ref (A (91, 0))), (2, .ref (A (40, 0))), (1, .ref (A (0, 0))), (0, .ref (b))] [] := by
  have hG := C.st
  obtain ⟨h103, h104, h105, hI1, hI3, hI4, hdr, hsh, hqu, hq9, hU6, hu0, hu, hg0, hg, hf0, hf, hl0, hl, hw0, hw, hc0, hc9, h1, h2, h3, h4, h5, h6, h7, h8, h9, hDE, h12, h13, hq10, hkc, hns⟩ := hb n g m hi (by omega)
  refine v_aload_n (pc := 3030) C dL_law_3030 4 rfl rfl ?_
  refine v_aload_n (pc := 3031) C dL_law_3031 5 rfl rfl ?_
  refine v_iload (pc := 3032) C dL_law_3032 0 rfl ?_
  refine v_iconst (v := 1) (pc := 3034) C dL_law_3034 rfl ?_
  refine v_iadd (pc := 3035) C dL_law_3035 ?_
  refine v_sld (pc := 3036) C hX hbl hbA (ix_1 hn5 hN) dL_law_3036 ?_
  refine v_aload_n (pc := 3037) C dL_law_3037 5 rfl rfl ?_
  refine v_iload (pc := 3038) C dL_law_3038 0 rfl ?_
  refine v_iconst (v := 2) (pc := 3040) C dL_law_3040 rfl ?_
  refine v_iadd (pc := 3041) C dL_law_3041 ?_
  refine v_sld (pc := 3042) C hX hbl hbA (ix_2 hn5 hN) dL_law_3042 ?_
  refine v_aload_n (pc := 3043) C dL_law_3043 5 rfl rfl ?_
  refine v_iload (pc := 3044) C dL_law_3044 0 rfl ?_
  refine v_iconst (v := 3) (pc := 3046) C dL_law_3046 rfl ?_
  refine v_iadd (pc := 3047) C dL_law_3047 ?_
  refine v_sld (pc := 3048) C hX hbl hbA (ix_3 hn5 hN) dL_law_3048 ?_
  refine v_aload_n (pc := 3049) C dL_law_3049 5 rfl rfl ?_
  refine v_iload (pc := 3050) C dL_law_3050 0 rfl ?_
  refine v_iconst (v := 4) (pc := 3052) C dL_law_3052 rfl ?_
  refine v_iadd (pc := 3053) C dL_law_3053 ?_
  refine v_sld (pc := 3054) C hX hbl hbA (ix_4 hn5 hN) dL_law_3054 ?_
  refine v_aload_n (pc := 3055) C dL_law_3055 2 rfl rfl ?_
  obtain ⟨hP1, hP2, hP3, hP4, hP5, hP6⟩ := hp n g m hi (by omega) (sc (5 * n + 1)) (sc (5 * n + 2)) (sc (5 * n + 3)) (sc (5 * n + 4))
  have hroom : (170 + 30 * (n + 1) + (vPh (S_X11_draft g (sc (5 * n + 1)) (sc (5 * n + 2)) (sc (5 * n + 3)) (sc (5 * n + 4))) + vPb (S_X12_draft m (sc (5 * n + 1)) (sc (5 * n + 2)) (sc (5 * n + 3)) (sc (5 * n + 4))) + vPw (S_X12_draft m (sc (5 * n + 1)) (sc (5 * n + 2)) (sc (5 * n + 3)) (sc (5 * n + 4))))) ≤ 603072 ∧ (3000 + 200 * (n + 1) + 2 * (vPh (S_X11_draft g (sc (5 * n + 1)) (sc (5 * n + 2)) (sc (5 * n + 3)) (sc (5 * n + 4))) + vPb (S_X12_draft m (sc (5 * n + 1)) (sc (5 * n + 2)) (sc (5 * n + 3)) (sc (5 * n + 4))) + vPw (S_X12_draft m (sc (5 * n + 1)) (sc (5 * n + 2)) (sc (5 * n + 3)) (sc (5 * n + 4))))) ≤ 7207017 := by obtain ⟨-, -, -, -, -, -, -, -, -, -, -, -, -, -, -, -, -, -, -, -, -, -, -, -, -, -, -, -, -, -, -, -, -, -, -, -, z1, z2⟩ := hb (n + 1) _ _ hP3 (by omega); exact ⟨z1, z2⟩
  refine v_callSH (pc := 3056) C (c_L_draft hG (g := g) (r := wm m (rL N sc o d)) (sc (5 * n + 1)) (sc (5 * n + 2)) (sc (5 * n + 3)) (sc (5 * n + 4)) (hdr _) (o := o) ((wm_at (by decide)).trans rL_91)) 6 wd_1241 wd_61 wd_1239 wd_1240 (by decide +kernel) (by decide) (by decide) rfl ([]) rfl (Nat.le_of_ble_eq_true rfl) ⟨by omega, by omega⟩ dL_law_3056 (fun v9 A_1 h9 hR9 => ?_)
  obtain ⟨rfl, hA_1, rfl⟩ := hR9
  refine v_st (k2 := ((170 + 30 * n + (vPh g + vPb m + vPw m)) + 4)) (n2 := ((3000 + 200 * n + 2 * (vPh g + vPb m + vPw m)) + 24)) (st2 := [.int (K_L_draft (X_X11_draft g (sc (5 * n + 1)) (sc (5 * n + 2)) (sc (5 * n + 3)) (sc (5 * n + 4))))]) rfl rfl rfl ?_
  refine v_lve (lv2 := [(5, .int (nI (5 * n))), (4, .ref (A_1 (92, 0))), (3, .ref (A_1 (91, 0))), (2, .ref (A_1 (40, 0))), (1, .ref (A_1 (0, 0))), (0, .ref (b))]) (by rw [hA_1 (92, 0) (Or.inr (Nat.le_of_ble_eq_true rfl)), hA_1 (91, 0) (Or.inr (Nat.le_of_ble_eq_true rfl)), hA_1 (40, 0) (Or.inr (Nat.le_of_ble_eq_true rfl)), hA_1 (0, 0) (Or.inl (Nat.le_of_ble_eq_true rfl))]) ?_
  refine v_h (h2 := wm m (w (S_X11_draft g (sc (5 * n + 1)) (sc (5 * n + 2)) (sc (5 * n + 3)) (sc (5 * n + 4))) (rL N sc (if X_X11_draft g (sc (5 * n + 1)) (sc (5 * n + 2)) (sc (5 * n + 3)) (sc (5 * n + 4)) = 0 then vp_updL o 0 ((V_X11_draft g (sc (5 * n + 1)) (sc (5 * n + 2)) (sc (5 * n + 3)) (sc (5 * n + 4))).toInt64) else o) d))) ((congrArg (w (S_X11_draft g (sc (5 * n + 1)) (sc (5 * n + 2)) (sc (5 * n + 3)) (sc (5 * n + 4)))) rL_ifo).trans w_wm.symm) ?_
  refine v_istore (lv2 := [(6, .int (K_L_draft (X_X11_draft g (sc (5 * n + 1)) (sc (5 * n + 2)) (sc (5 * n + 3)) (sc (5 * n + 4))))), (5, .int (nI (5 * n))), (4, .ref (A_1 (92, 0))), (3, .ref (A_1 (91, 0))), (2, .ref (A_1 (40, 0))), (1, .ref (A_1 (0, 0))), (0, .ref (b))]) (pc := 3059) C dL_law_3059 (by decide) rfl ?_
  refine v_aload_n (pc := 3061) C dL_law_3061 4 rfl rfl ?_
  refine v_aload_n (pc := 3062) C dL_law_3062 6 rfl rfl ?_
  refine v_iload (pc := 3063) C dL_law_3063 1 rfl ?_
  refine v_iconst (v := 1) (pc := 3065) C dL_law_3065 rfl ?_
  refine v_iadd (pc := 3066) C dL_law_3066 ?_
  refine v_sld (pc := 3067) C hX hbl hbA (ix_1 hn5 hN) dL_law_3067 ?_
  refine v_aload_n (pc := 3068) C dL_law_3068 6 rfl rfl ?_
  refine v_iload (pc := 3069) C dL_law_3069 1 rfl ?_
  refine v_iconst (v := 2) (pc := 3071) C dL_law_3071 rfl ?_
  refine v_iadd (pc := 3072) C dL_law_3072 ?_
  refine v_sld (pc := 3073) C hX hbl hbA (ix_2 hn5 hN) dL_law_3073 ?_
  refine v_aload_n (pc := 3074) C dL_law_3074 6 rfl rfl ?_
  refine v_iload (pc := 3075) C dL_law_3075 1 rfl ?_
  refine v_iconst (v := 3) (pc := 3077) C dL_law_3077 rfl ?_
  refine v_iadd (pc := 3078) C dL_law_3078 ?_
  refine v_sld (pc := 3079) C hX hbl hbA (ix_3 hn5 hN) dL_law_3079 ?_
  refine v_aload_n (pc := 3080) C dL_law_3080 6 rfl rfl ?_
  refine v_iload (pc := 3081) C dL_law_3081 1 rfl ?_
  refine v_iconst (v := 4) (pc := 3083) C dL_law_3083 rfl ?_
  refine v_iadd (pc := 3084) C dL_law_3084 ?_
  refine v_sld (pc := 3085) C hX hbl hbA (ix_4 hn5 hN) dL_law_3085 ?_
  refine v_callV (pc := 3086) C (40, 0) ck_40 rfl (c_X12_draft hG (g := m) (r := w (S_X11_draft g (sc (5 * n + 1)) (sc (5 * n + 2)) (sc (5 * n + 3)) (sc (5 * n + 4))) (rL N sc (if X_X11_draft g (sc (5 * n + 1)) (sc (5 * n + 2)) (sc (5 * n + 3)) (sc (5 * n + 4)) = 0 then vp_updL o 0 ((V_X11_draft g (sc (5 * n + 1)) (sc (5 * n + 2)) (sc (5 * n + 3)) (sc (5 * n + 4))).toInt64) else o) d)) (sc (5 * n + 1)) (sc (5 * n + 2)) (sc (5 * n + 3)) (sc (5 * n + 4)) hu0 hu hg0 hg hf0 hf h1 h2 h3 h9) 4 wd_1841 wd_68 wd_1838 wd_1839 wd_1840 (by decide +kernel) (by decide) (by decide) rfl ([]) rfl (Nat.le_of_ble_eq_true rfl) ⟨by omega, by omega⟩ dL_law_3086 (fun _ _ _ q => q.elim) (fun v9 A_2 h9 hR9 => ?_)
  obtain ⟨rfl, hA_2, rfl⟩ := hR9
  refine v_st (k2 := (((170 + 30 * n + (vPh g + vPb m + vPw m)) + 4) + 0)) (n2 := (((3000 + 200 * n + 2 * (vPh g + vPb m + vPw m)) + 24) + 0)) (st2 := [.int (V_X12_draft m (sc (5 * n + 1)) (sc (5 * n + 2)) (sc (5 * n + 3)) (sc (5 * n + 4)))]) rfl rfl rfl ?_
  obtain rfl := hA_2.symm
  refine v_istore (lv2 := [(7, .int (V_X12_draft m (sc (5 * n + 1)) (sc (5 * n + 2)) (sc (5 * n + 3)) (sc (5 * n + 4)))), (6, .int (K_L_draft (X_X11_draft g (sc (5 * n + 1)) (sc (5 * n + 2)) (sc (5 * n + 3)) (sc (5 * n + 4))))), (5, .int (nI (5 * n))), (4, .ref (A_1 (92, 0))), (3, .ref (A_1 (91, 0))), (2, .ref (A_1 (40, 0))), (1, .ref (A_1 (0, 0))), (0, .ref (b))]) (pc := 3089) C dL_law_3089 (by decide) rfl ?_
  refine v_aload_n (pc := 3091) C dL_law_3091 5 rfl rfl ?_
  refine v_callV (pc := 3092) C (40, 0) ck_40 rfl (c_X12_thrown hG (g := (S_X12_draft m (sc (5 * n + 1)) (sc (5 * n + 2)) (sc (5 * n + 3)) (sc (5 * n + 4))))) 0 wd_1377 wd_68 wd_1374 wd_1375 wd_1376 (by decide +kernel) (by decide) (by decide) rfl ([]) rfl (Nat.le_of_ble_eq_true rfl) ⟨by omega, by omega⟩ dL_law_3092 (fun _ _ _ q => q.elim) (fun v9 A9 h9 hR9 => ?_)
  obtain ⟨rfl, hA9, rfl⟩ := hR9
  obtain rfl := hA9.symm
  refine v_st (k2 := (((170 + 30 * n + (vPh g + vPb m + vPw m)) + 4) + 0)) (n2 := (((3000 + 200 * n + 2 * (vPh g + vPb m + vPw m)) + 24) + 0)) (st2 := [.int (V_X12_thrown (S_X12_draft m (sc (5 * n + 1)) (sc (5 * n + 2)) (sc (5 * n + 3)) (sc (5 * n + 4))))]) rfl rfl rfl ?_
  refine v_iload (pc := 3095) C dL_law_3095 1 rfl ?_
  refine v_icmp_eq (pc := 3097) (tgt := 3102) C dL_law_3097 (by decide) (fun c3 => ?_) (fun c3 => ?_)
  · skip
    refine v_iload (pc := 3102) C dL_law_3102 1 rfl ?_
    refine v_if_ne (pc := 3104) (tgt := 3119) C dL_law_3104 (by decide) (fun c4 => ?_) (fun c4 => ?_)
    · skip
      refine v_goto (tgt := 3502) (pc := 3119) C dL_law_3119 (by decide) ?_
      refine v_lv (lv2 := [(5, .int (nI (5 * n))), (4, .ref (A_1 (92, 0))), (3, .ref (A_1 (91, 0))), (2, .ref (A_1 (40, 0))), (1, .ref (A_1 (0, 0))), (0, .ref (b))]) [2, 3, 4, 5, 6, 7] rfl ?_
      refine v_h (h2 := w (S_X11_draft g (sc (5 * n + 1)) (sc (5 * n + 2)) (sc (5 * n + 3)) (sc (5 * n + 4))) (wm (S_X12_draft m (sc (5 * n + 1)) (sc (5 * n + 2)) (sc (5 * n + 3)) (sc (5 * n + 4))) (rL N sc (if X_X11_draft g (sc (5 * n + 1)) (sc (5 * n + 2)) (sc (5 * n + 3)) (sc (5 * n + 4)) = 0 then vp_updL o 0 ((V_X11_draft g (sc (5 * n + 1)) (sc (5 * n + 2)) (sc (5 * n + 3)) (sc (5 * n + 4))).toInt64) else o) d))) w_wm ?_
      refine v_widen (k2 := (170 + 30 * (n + 1) + (vPh (S_X11_draft g (sc (5 * n + 1)) (sc (5 * n + 2)) (sc (5 * n + 3)) (sc (5 * n + 4))) + vPb (S_X12_draft m (sc (5 * n + 1)) (sc (5 * n + 2)) (sc (5 * n + 3)) (sc (5 * n + 4))) + vPw (S_X12_draft m (sc (5 * n + 1)) (sc (5 * n + 2)) (sc (5 * n + 3)) (sc (5 * n + 4)))))) (n2 := (3000 + 200 * (n + 1) + 2 * (vPh (S_X11_draft g (sc (5 * n + 1)) (sc (5 * n + 2)) (sc (5 * n + 3)) (sc (5 * n + 4))) + vPb (S_X12_draft m (sc (5 * n + 1)) (sc (5 * n + 2)) (sc (5 * n + 3)) (sc (5 * n + 4))) + vPw (S_X12_draft m (sc (5 * n + 1)) (sc (5 * n + 2)) (sc (5 * n + 3)) (sc (5 * n + 4)))))) (by omega) (by omega) ?_
      exact k A_1 (S_X11_draft g (sc (5 * n + 1)) (sc (5 * n + 2)) (sc (5 * n + 3)) (sc (5 * n + 4))) (S_X12_draft m (sc (5 * n + 1)) (sc (5 * n + 2)) (sc (5 * n + 3)) (sc (5 * n + 4))) (if X_X11_draft g (sc (5 * n + 1)) (sc (5 * n + 2)) (sc (5 * n + 3)) (sc (5 * n + 4)) = 0 then vp_updL o 0 ((V_X11_draft g (sc (5 * n + 1)) (sc (5 * n + 2)) (sc (5 * n + 3)) (sc (5 * n + 4))).toInt64) else o) d (vAs_0 hA_1) hP3
    · skip
      have hX0 := kz_draft (E_X_X11_draft ..) c4
      have hVV := hP2 hX0
      refine v_aload_n (pc := 3107) C dL_law_3107 4 rfl rfl ?_
      refine v_iconst (v := 0) (pc := 3108) C dL_law_3108 rfl ?_
      refine v_lald (pc := 3109) C (91, 0) (v := (V_X11_draft g (sc (5 * n + 1)) (sc (5 * n + 2)) (sc (5 * n + 3)) (sc (5 * n + 4))).toInt64) ((wm_at (by decide)).trans ((w_at (by decide)).trans rL_91)) (by simp only [vp_in_iff]; decide) ((congrFun (if_pos hX0) _).trans rfl) dL_law_3109 ?_
      refine v_iload (pc := 3110) C dL_law_3110 0 rfl ?_
      refine v_i2l (pc := 3112) C dL_law_3112 rfl ?_
      refine v_lcmp (pc := 3113) C dL_law_3113 ?_
      refine v_if_eq (pc := 3114) (tgt := 3119) C dL_law_3114 (by decide) (fun c5 => ?_) (fun c5 => ?_)
      · skip
        refine v_goto (tgt := 3502) (pc := 3119) C dL_law_3119 (by decide) ?_
        refine v_lv (lv2 := [(5, .int (nI (5 * n))), (4, .ref (A_1 (92, 0))), (3, .ref (A_1 (91, 0))), (2, .ref (A_1 (40, 0))), (1, .ref (A_1 (0, 0))), (0, .ref (b))]) [2, 3, 4, 5, 6, 7] rfl ?_
        refine v_h (h2 := w (S_X11_draft g (sc (5 * n + 1)) (sc (5 * n + 2)) (sc (5 * n + 3)) (sc (5 * n + 4))) (wm (S_X12_draft m (sc (5 * n + 1)) (sc (5 * n + 2)) (sc (5 * n + 3)) (sc (5 * n + 4))) (rL N sc (if X_X11_draft g (sc (5 * n + 1)) (sc (5 * n + 2)) (sc (5 * n + 3)) (sc (5 * n + 4)) = 0 then vp_updL o 0 ((V_X11_draft g (sc (5 * n + 1)) (sc (5 * n + 2)) (sc (5 * n + 3)) (sc (5 * n + 4))).toInt64) else o) d))) w_wm ?_
        refine v_widen (k2 := (170 + 30 * (n + 1) + (vPh (S_X11_draft g (sc (5 * n + 1)) (sc (5 * n + 2)) (sc (5 * n + 3)) (sc (5 * n + 4))) + vPb (S_X12_draft m (sc (5 * n + 1)) (sc (5 * n + 2)) (sc (5 * n + 3)) (sc (5 * n + 4))) + vPw (S_X12_draft m (sc (5 * n + 1)) (sc (5 * n + 2)) (sc (5 * n + 3)) (sc (5 * n + 4)))))) (n2 := (3000 + 200 * (n + 1) + 2 * (vPh (S_X11_draft g (sc (5 * n + 1)) (sc (5 * n + 2)) (sc (5 * n + 3)) (sc (5 * n + 4))) + vPb (S_X12_draft m (sc (5 * n + 1)) (sc (5 * n + 2)) (sc (5 * n + 3)) (sc (5 * n + 4))) + vPw (S_X12_draft m (sc (5 * n + 1)) (sc (5 * n + 2)) (sc (5 * n + 3)) (sc (5 * n + 4)))))) (by omega) (by omega) ?_
        exact k A_1 (S_X11_draft g (sc (5 * n + 1)) (sc (5 * n + 2)) (sc (5 * n + 3)) (sc (5 * n + 4))) (S_X12_draft m (sc (5 * n + 1)) (sc (5 * n + 2)) (sc (5 * n + 3)) (sc (5 * n + 4))) (if X_X11_draft g (sc (5 * n + 1)) (sc (5 * n + 2)) (sc (5 * n + 3)) (sc (5 * n + 4)) = 0 then vp_updL o 0 ((V_X11_draft g (sc (5 * n + 1)) (sc (5 * n + 2)) (sc (5 * n + 3)) (sc (5 * n + 4))).toInt64) else o) d (vAs_0 hA_1) hP3
      · skip
        exact absurd (by rw [hVV]; exact lg_self) c5
  · skip
    exact absurd (thrown_eq hP1) c3
set_option maxHeartbeats 4000000 in
set_option maxRecDepth 100000 in
theorem cs_comeBack {I : Nat → vS → vS → Prop} (hb : PZ_base I) (hp : PZ_comeBack I) {G : vG} {X : vX} {mn : String} (C : vC G X cL_law 9 RL (some .boolean) mn 2040 603072 7207017) {A : vN → Nat} {n : Nat} {g m : vS} {N : Nat} {sc : Nat → Int32} {o : Nat → Int64} {d : Nat → UInt64} {Q : State → Prop} {b : Nat} (hX : va_X b N sc X.2.2.2.2.1 X.2.2.2.2.1.heap) (hbl : b < X.2.2.2.2.1.heap.size) (hbA : ¬ vAd G b) (hi : I n g m) (hn5 : 5 * n + 5 ≤ N) (hN : N ≤ 2560) (k : ∀ (A2 : vN → Nat) (g2 m2 : vS) (o2 : Nat → Int64) (d2 : Nat → UInt64), vAs 1 82 A2 A → I (n + 1) g2 m2 → V G 9 X A2 (w g2 (wm m2 (rL N sc o2 d2))) (170 + 30 * (n + 1) + (vPh g2 + vPb m2 + vPw m2)) (3000 + 200 * (n + 1) + 2 * (vPh g2 + vPb m2 + vPw m2)) Q 3502 [(5, .int (nI (5 * n))), (4, .ref (A2 (92, 0))), (3, .ref (A2 (91, 0))), (2, .ref (A2 (40, 0))), (1, .ref (A2 (0, 0))), (0, .ref (b))] []) : V G 9 X A (w g (wm m (rL N sc o d))) (170 + 30 * n + (vPh g + vPb m + vPw m)) (3000 + 200 * n + 2 * (vPh g + vPb m + vPw m)) Q 3122 [(5, .int (nI (5 * n))), (4, .ref (A (92, 0))), (3, .ref (A (91, 0))), (2, .ref (A (40, 0))), (1, .ref (A (0, 0))), (0, .ref (b))] [] := by
  have hG := C.st
  obtain ⟨h103, h104, h105, hI1, hI3, hI4, hdr, hsh, hqu, hq9, hU6, hu0, hu, hg0, hg, hf0, hf, hl0, hl, hw0, hw, hc0, hc9, h1, h2, h3, h4, h5, h6, h7, h8, h9, hDE, h12, h13, hq10, hkc, hns⟩ := hb n g m hi (by omega)
  refine v_aload_n (pc := 3122) C dL_law_3122 4 rfl rfl ?_
  refine v_aload_n (pc := 3123) C dL_law_3123 5 rfl rfl ?_
  refine v_iload (pc := 3124) C dL_law_3124 0 rfl ?_
  refine v_iconst (v := 1) (pc := 3126) C dL_law_3126 rfl ?_
  refine v_iadd (pc := 3127) C dL_law_3127 ?_
  refine v_sld (pc := 3128) C hX hbl hbA (ix_1 hn5 hN) dL_law_3128 ?_
  refine v_aload_n (pc := 3129) C dL_law_3129 2 rfl rfl ?_
  obtain ⟨hP1, hP2, hP3, hP4, hP5, hP6⟩ := hp n g m hi (by omega) (sc (5 * n + 1))
  have hroom : (170 + 30 * (n + 1) + (vPh (S_X11_comeBack g (sc (5 * n + 1))) + vPb (S_X12_comeBack m (sc (5 * n + 1))) + vPw (S_X12_comeBack m (sc (5 * n + 1))))) ≤ 603072 ∧ (3000 + 200 * (n + 1) + 2 * (vPh (S_X11_comeBack g (sc (5 * n + 1))) + vPb (S_X12_comeBack m (sc (5 * n + 1))) + vPw (S_X12_comeBack m (sc (5 * n + 1))))) ≤ 7207017 := by obtain ⟨-, -, -, -, -, -, -, -, -, -, -, -, -, -, -, -, -, -, -, -, -, -, -, -, -, -, -, -, -, -, -, -, -, -, -, -, z1, z2⟩ := hb (n + 1) _ _ hP3 (by omega); exact ⟨z1, z2⟩
  refine v_callSH (pc := 3130) C (c_L_comeBack hG (g := g) (r := wm m (rL N sc o d)) (sc (5 * n + 1)) (vNr_wm rL_no) hI3 hI1 (o := o) ((wm_at (by decide)).trans rL_91)) 3 wd_1273 wd_61 wd_1271 wd_1272 (by decide +kernel) (by decide) (by decide) rfl ([]) rfl (Nat.le_of_ble_eq_true rfl) ⟨by omega, by omega⟩ dL_law_3130 (fun v9 A_1 h9 hR9 => ?_)
  obtain ⟨rfl, hA_1, rfl⟩ := hR9
  refine v_st (k2 := ((170 + 30 * n + (vPh g + vPb m + vPw m)) + 23)) (n2 := ((3000 + 200 * n + 2 * (vPh g + vPb m + vPw m)) + 160)) (st2 := [.int (K_L_comeBack (X_X11_comeBack g (sc (5 * n + 1))))]) rfl rfl rfl ?_
  refine v_lve (lv2 := [(5, .int (nI (5 * n))), (4, .ref (A_1 (92, 0))), (3, .ref (A_1 (91, 0))), (2, .ref (A_1 (40, 0))), (1, .ref (A_1 (0, 0))), (0, .ref (b))]) (by rw [hA_1 (92, 0) (Or.inr (Nat.le_of_ble_eq_true rfl)), hA_1 (91, 0) (Or.inr (Nat.le_of_ble_eq_true rfl)), hA_1 (40, 0) (Or.inr (Nat.le_of_ble_eq_true rfl)), hA_1 (0, 0) (Or.inl (Nat.le_of_ble_eq_true rfl))]) ?_
  refine v_h (h2 := wm m (w (S_X11_comeBack g (sc (5 * n + 1))) (rL N sc (if X_X11_comeBack g (sc (5 * n + 1)) = 0 then vp_updL o 0 ((V_X11_comeBack g (sc (5 * n + 1))).toInt64) else o) d))) ((congrArg (w (S_X11_comeBack g (sc (5 * n + 1)))) rL_ifo).trans w_wm.symm) ?_
  refine v_istore (lv2 := [(6, .int (K_L_comeBack (X_X11_comeBack g (sc (5 * n + 1))))), (5, .int (nI (5 * n))), (4, .ref (A_1 (92, 0))), (3, .ref (A_1 (91, 0))), (2, .ref (A_1 (40, 0))), (1, .ref (A_1 (0, 0))), (0, .ref (b))]) (pc := 3133) C dL_law_3133 (by decide) rfl ?_
  refine v_aload_n (pc := 3135) C dL_law_3135 4 rfl rfl ?_
  refine v_aload_n (pc := 3136) C dL_law_3136 6 rfl rfl ?_
  refine v_iload (pc := 3137) C dL_law_3137 1 rfl ?_
  refine v_iconst (v := 1) (pc := 3139) C dL_law_3139 rfl ?_
  refine v_iadd (pc := 3140) C dL_law_3140 ?_
  refine v_sld (pc := 3141) C hX hbl hbA (ix_1 hn5 hN) dL_law_3141 ?_
  refine v_callV (pc := 3142) C (40, 0) ck_40 rfl (c_X12_comeBack hG (g := m) (r := w (S_X11_comeBack g (sc (5 * n + 1))) (rL N sc (if X_X11_comeBack g (sc (5 * n + 1)) = 0 then vp_updL o 0 ((V_X11_comeBack g (sc (5 * n + 1))).toInt64) else o) d)) (sc (5 * n + 1)) hu0 hu hg0 hg hf0 hf h1 h2 h3 (20 * n) h7 (by omega) (vNq_w rL_no) hl0 hl h8 h9) 1 wd_1845 wd_68 wd_1842 wd_1843 wd_1844 (by decide +kernel) (by decide) (by decide) rfl ([]) rfl (Nat.le_of_ble_eq_true rfl) ⟨by omega, by omega⟩ dL_law_3142 (fun _ _ _ q => q.elim) (fun v9 A_2 h9 hR9 => ?_)
  obtain ⟨rfl, hA_2, rfl⟩ := hR9
  refine v_st (k2 := (((170 + 30 * n + (vPh g + vPb m + vPw m)) + 23) + (vPb (S_X12_comeBack m (sc (5 * n + 1))) - vPb m))) (n2 := (((3000 + 200 * n + 2 * (vPh g + vPb m + vPw m)) + 160) + (2 * (vPb (S_X12_comeBack m (sc (5 * n + 1))) - vPb m)))) (st2 := [.int (V_X12_comeBack m (sc (5 * n + 1)))]) rfl rfl rfl ?_
  refine v_lve (lv2 := [(6, .int (K_L_comeBack (X_X11_comeBack g (sc (5 * n + 1))))), (5, .int (nI (5 * n))), (4, .ref (A_2 (92, 0))), (3, .ref (A_2 (91, 0))), (2, .ref (A_2 (40, 0))), (1, .ref (A_2 (0, 0))), (0, .ref (b))]) (by rw [hA_2 (92, 0) (Or.inr (Nat.le_of_ble_eq_true rfl)), hA_2 (91, 0) (Or.inr (Nat.le_of_ble_eq_true rfl)), hA_2 (40, 0) (Or.inl (Nat.le_of_ble_eq_true rfl)), hA_2 (0, 0) (Or.inl (Nat.le_of_ble_eq_true rfl))]) ?_
  refine v_istore (lv2 := [(7, .int (V_X12_comeBack m (sc (5 * n + 1)))), (6, .int (K_L_comeBack (X_X11_comeBack g (sc (5 * n + 1))))), (5, .int (nI (5 * n))), (4, .ref (A_2 (92, 0))), (3, .ref (A_2 (91, 0))), (2, .ref (A_2 (40, 0))), (1, .ref (A_2 (0, 0))), (0, .ref (b))]) (pc := 3145) C dL_law_3145 (by decide) rfl ?_
  refine v_aload_n (pc := 3147) C dL_law_3147 5 rfl rfl ?_
  refine v_callV (pc := 3148) C (40, 0) ck_40 rfl (c_X12_thrown hG (g := (S_X12_comeBack m (sc (5 * n + 1))))) 0 wd_1377 wd_68 wd_1374 wd_1375 wd_1376 (by decide +kernel) (by decide) (by decide) rfl ([]) rfl (Nat.le_of_ble_eq_true rfl) ⟨by omega, by omega⟩ dL_law_3148 (fun _ _ _ q => q.elim) (fun v9 A9 h9 hR9 => ?_)
  obtain ⟨rfl, hA9, rfl⟩ := hR9
  obtain rfl := hA9.symm
  refine v_st (k2 := (((170 + 30 * n + (vPh g + vPb m + vPw m)) + 23) + (vPb (S_X12_comeBack m (sc (5 * n + 1))) - vPb m))) (n2 := (((3000 + 200 * n + 2 * (vPh g + vPb m + vPw m)) + 160) + (2 * (vPb (S_X12_comeBack m (sc (5 * n + 1))) - vPb m)))) (st2 := [.int (V_X12_thrown (S_X12_comeBack m (sc (5 * n + 1))))]) rfl rfl rfl ?_
  refine v_iload (pc := 3151) C dL_law_3151 1 rfl ?_
  refine v_icmp_eq (pc := 3153) (tgt := 3158) C dL_law_3153 (by decide) (fun c3 => ?_) (fun c3 => ?_)
  · skip
    refine v_iload (pc := 3158) C dL_law_3158 1 rfl ?_
    refine v_if_ne (pc := 3160) (tgt := 3175) C dL_law_3160 (by decide) (fun c4 => ?_) (fun c4 => ?_)
    · skip
      refine v_goto (tgt := 3502) (pc := 3175) C dL_law_3175 (by decide) ?_
      refine v_lv (lv2 := [(5, .int (nI (5 * n))), (4, .ref (A_2 (92, 0))), (3, .ref (A_2 (91, 0))), (2, .ref (A_2 (40, 0))), (1, .ref (A_2 (0, 0))), (0, .ref (b))]) [2, 3, 4, 5, 6, 7] rfl ?_
      refine v_h (h2 := w (S_X11_comeBack g (sc (5 * n + 1))) (wm (S_X12_comeBack m (sc (5 * n + 1))) (rL N sc (if X_X11_comeBack g (sc (5 * n + 1)) = 0 then vp_updL o 0 ((V_X11_comeBack g (sc (5 * n + 1))).toInt64) else o) d))) w_wm ?_
      refine v_widen (k2 := (170 + 30 * (n + 1) + (vPh (S_X11_comeBack g (sc (5 * n + 1))) + vPb (S_X12_comeBack m (sc (5 * n + 1))) + vPw (S_X12_comeBack m (sc (5 * n + 1)))))) (n2 := (3000 + 200 * (n + 1) + 2 * (vPh (S_X11_comeBack g (sc (5 * n + 1))) + vPb (S_X12_comeBack m (sc (5 * n + 1))) + vPw (S_X12_comeBack m (sc (5 * n + 1)))))) (by omega) (by omega) ?_
      exact k A_2 (S_X11_comeBack g (sc (5 * n + 1))) (S_X12_comeBack m (sc (5 * n + 1))) (if X_X11_comeBack g (sc (5 * n + 1)) = 0 then vp_updL o 0 ((V_X11_comeBack g (sc (5 * n + 1))).toInt64) else o) d (vAs_t (vAs_w hA_2 (by decide) (by decide)) (vAs_w hA_1 (by decide) (by decide))) hP3
    · skip
      have hX0 := kz_comeBack (E_X_X11_comeBack ..) c4
      have hVV := hP2 hX0
      refine v_aload_n (pc := 3163) C dL_law_3163 4 rfl rfl ?_
      refine v_iconst (v := 0) (pc := 3164) C dL_law_3164 rfl ?_
      refine v_lald (pc := 3165) C (91, 0) (v := (V_X11_comeBack g (sc (5 * n + 1))).toInt64) ((wm_at (by decide)).trans ((w_at (by decide)).trans rL_91)) (by simp only [vp_in_iff]; decide) ((congrFun (if_pos hX0) _).trans rfl) dL_law_3165 ?_
      refine v_iload (pc := 3166) C dL_law_3166 0 rfl ?_
      refine v_i2l (pc := 3168) C dL_law_3168 rfl ?_
      refine v_lcmp (pc := 3169) C dL_law_3169 ?_
      refine v_if_eq (pc := 3170) (tgt := 3175) C dL_law_3170 (by decide) (fun c5 => ?_) (fun c5 => ?_)
      · skip
        refine v_goto (tgt := 3502) (pc := 3175) C dL_law_3175 (by decide) ?_
        refine v_lv (lv2 := [(5, .int (nI (5 * n))), (4, .ref (A_2 (92, 0))), (3, .ref (A_2 (91, 0))), (2, .ref (A_2 (40, 0))), (1, .ref (A_2 (0, 0))), (0, .ref (b))]) [2, 3, 4, 5, 6, 7] rfl ?_
        refine v_h (h2 := w (S_X11_comeBack g (sc (5 * n + 1))) (wm (S_X12_comeBack m (sc (5 * n + 1))) (rL N sc (if X_X11_comeBack g (sc (5 * n + 1)) = 0 then vp_updL o 0 ((V_X11_comeBack g (sc (5 * n + 1))).toInt64) else o) d))) w_wm ?_
        refine v_widen (k2 := (170 + 30 * (n + 1) + (vPh (S_X11_comeBack g (sc (5 * n + 1))) + vPb (S_X12_comeBack m (sc (5 * n + 1))) + vPw (S_X12_comeBack m (sc (5 * n + 1)))))) (n2 := (3000 + 200 * (n + 1) + 2 * (vPh (S_X11_comeBack g (sc (5 * n + 1))) + vPb (S_X12_comeBack m (sc (5 * n + 1))) + vPw (S_X12_comeBack m (sc (5 * n + 1)))))) (by omega) (by omega) ?_
        exact k A_2 (S_X11_comeBack g (sc (5 * n + 1))) (S_X12_comeBack m (sc (5 * n + 1))) (if X_X11_comeBack g (sc (5 * n + 1)) = 0 then vp_updL o 0 ((V_X11_comeBack g (sc (5 * n + 1))).toInt64) else o) d (vAs_t (vAs_w hA_2 (by decide) (by decide)) (vAs_w hA_1 (by decide) (by decide))) hP3
      · skip
        exact absurd (by rw [hVV]; exact lg_self) c5
  · skip
    exact absurd (thrown_eq hP1) c3
set_option maxHeartbeats 4000000 in
set_option maxRecDepth 100000 in
theorem cs_conflicts {I : Nat → vS → vS → Prop} (hb : PZ_base I) (hp : PZ_conflicts I) {G : vG} {X : vX} {mn : String} (C : vC G X cL_law 9 RL (some .boolean) mn 2040 603072 7207017) {A : vN → Nat} {n : Nat} {g m : vS} {N : Nat} {sc : Nat → Int32} {o : Nat → Int64} {d : Nat → UInt64} {Q : State → Prop} {b : Nat} (hX : va_X b N sc X.2.2.2.2.1 X.2.2.2.2.1.heap) (hbl : b < X.2.2.2.2.1.heap.size) (hbA : ¬ vAd G b) (hi : I n g m) (hn5 : 5 * n + 5 ≤ N) (hN : N ≤ 2560) (k : ∀ (A2 : vN → Nat) (g2 m2 : vS) (o2 : Nat → Int64) (d2 : Nat → UInt64), vAs 1 82 A2 A → I (n + 1) g2 m2 → V G 9 X A2 (w g2 (wm m2 (rL N sc o2 d2))) (170 + 30 * (n + 1) + (vPh g2 + vPb m2 + vPw m2)) (3000 + 200 * (n + 1) + 2 * (vPh g2 + vPb m2 + vPw m2)) Q 3502 [(5, .int (nI (5 * n))), (4, .ref (A2 (92, 0))), (3, .ref (A2 (91, 0))), (2, .ref (A2 (40, 0))), (1, .ref (A2 (0, 0))), (0, .ref (b))] []) : V G 9 X A (w g (wm m (rL N sc o d))) (170 + 30 * n + (vPh g + vPb m + vPw m)) (3000 + 200 * n + 2 * (vPh g + vPb m + vPw m)) Q 3178 [(5, .int (nI (5 * n))), (4, .ref (A (92, 0))), (3, .ref (A (91, 0))), (2, .ref (A (40, 0))), (1, .ref (A (0, 0))), (0, .ref (b))] [] := by
  have hG := C.st
  obtain ⟨h103, h104, h105, hI1, hI3, hI4, hdr, hsh, hqu, hq9, hU6, hu0, hu, hg0, hg, hf0, hf, hl0, hl, hw0, hw, hc0, hc9, h1, h2, h3, h4, h5, h6, h7, h8, h9, hDE, h12, h13, hq10, hkc, hns⟩ := hb n g m hi (by omega)
  refine v_aload_n (pc := 3178) C dL_law_3178 4 rfl rfl ?_
  obtain ⟨hPV, hP3, hP4, hP5, hP6⟩ := hp n g m hi (by omega)
  have hroom : (170 + 30 * (n + 1) + (vPh g + vPb (S_X12_conflicts m) + vPw (S_X12_conflicts m))) ≤ 603072 ∧ (3000 + 200 * (n + 1) + 2 * (vPh g + vPb (S_X12_conflicts m) + vPw (S_X12_conflicts m))) ≤ 7207017 := by obtain ⟨-, -, -, -, -, -, -, -, -, -, -, -, -, -, -, -, -, -, -, -, -, -, -, -, -, -, -, -, -, -, -, -, -, -, -, -, z1, z2⟩ := hb (n + 1) _ _ hP3 (by omega); exact ⟨z1, z2⟩
  refine v_callV (pc := 3179) C (0, 0) ck_0 rfl (c_X11_conflicts hG (g := g) ) 0 wd_288 wd_62 wd_285 wd_286 wd_287 (by decide +kernel) (by decide) (by decide) rfl ([]) rfl (Nat.le_of_ble_eq_true rfl) ⟨by omega, by omega⟩ dL_law_3179 (fun _ _ _ q => q.elim) (fun v9 A9 h9 hR9 => ?_)
  obtain ⟨rfl, hA9, rfl⟩ := hR9
  obtain rfl := hA9.symm
  refine v_st (k2 := ((170 + 30 * n + (vPh g + vPb m + vPw m)) + 0)) (n2 := ((3000 + 200 * n + 2 * (vPh g + vPb m + vPw m)) + 0)) (st2 := [.int (V_X11_conflicts g)]) rfl rfl rfl ?_
  refine v_h (h2 := wm m (w g (rL N sc o d))) w_wm.symm ?_
  refine v_aload_n (pc := 3182) C dL_law_3182 3 rfl rfl ?_
  refine v_callV (pc := 3183) C (40, 0) ck_40 rfl (c_X12_conflicts hG (g := m) (r := w g (rL N sc o d)) ) 0 wd_1849 wd_68 wd_1846 wd_1847 wd_1848 (by decide +kernel) (by decide) (by decide) rfl ([.int (V_X11_conflicts g)]) rfl (Nat.le_of_ble_eq_true rfl) ⟨by omega, by omega⟩ dL_law_3183 (fun _ _ _ q => q.elim) (fun v9 A_1 h9 hR9 => ?_)
  obtain ⟨rfl, hA_1, rfl⟩ := hR9
  refine v_st (k2 := (((170 + 30 * n + (vPh g + vPb m + vPw m)) + 0) + 0)) (n2 := (((3000 + 200 * n + 2 * (vPh g + vPb m + vPw m)) + 0) + 0)) (st2 := [.int (V_X12_conflicts m), .int (V_X11_conflicts g)]) rfl rfl rfl ?_
  obtain rfl := hA_1.symm
  refine v_icmp_eq (pc := 3186) (tgt := 3502) C dL_law_3186 (by decide) (fun c2 => ?_) (fun c2 => ?_)
  · skip
    refine v_lv (lv2 := [(5, .int (nI (5 * n))), (4, .ref (A (92, 0))), (3, .ref (A (91, 0))), (2, .ref (A (40, 0))), (1, .ref (A (0, 0))), (0, .ref (b))]) [0, 1, 2, 3, 4, 5] rfl ?_
    refine v_h (h2 := w g (wm (S_X12_conflicts m) (rL N sc o d))) w_wm ?_
    refine v_widen (k2 := (170 + 30 * (n + 1) + (vPh g + vPb (S_X12_conflicts m) + vPw (S_X12_conflicts m)))) (n2 := (3000 + 200 * (n + 1) + 2 * (vPh g + vPb (S_X12_conflicts m) + vPw (S_X12_conflicts m)))) (by omega) (by omega) ?_
    exact k A g (S_X12_conflicts m) o d vAs_r hP3
  · skip
    exact absurd hPV c2
set_option maxHeartbeats 4000000 in
set_option maxRecDepth 100000 in
theorem cs_conflictAt {I : Nat → vS → vS → Prop} (hb : PZ_base I) (hp : PZ_conflictAt I) {G : vG} {X : vX} {mn : String} (C : vC G X cL_law 9 RL (some .boolean) mn 2040 603072 7207017) {A : vN → Nat} {n : Nat} {g m : vS} {N : Nat} {sc : Nat → Int32} {o : Nat → Int64} {d : Nat → UInt64} {Q : State → Prop} {b : Nat} (hX : va_X b N sc X.2.2.2.2.1 X.2.2.2.2.1.heap) (hbl : b < X.2.2.2.2.1.heap.size) (hbA : ¬ vAd G b) (hi : I n g m) (hn5 : 5 * n + 5 ≤ N) (hN : N ≤ 2560) (k : ∀ (A2 : vN → Nat) (g2 m2 : vS) (o2 : Nat → Int64) (d2 : Nat → UInt64), vAs 1 82 A2 A → I (n + 1) g2 m2 → V G 9 X A2 (w g2 (wm m2 (rL N sc o2 d2))) (170 + 30 * (n + 1) + (vPh g2 + vPb m2 + vPw m2)) (3000 + 200 * (n + 1) + 2 * (vPh g2 + vPb m2 + vPw m2)) Q 3502 [(5, .int (nI (5 * n))), (4, .ref (A2 (92, 0))), (3, .ref (A2 (91, 0))), (2, .ref (A2 (40, 0))), (1, .ref (A2 (0, 0))), (0, .ref (b))] []) : V G 9 X A (w g (wm m (rL N sc o d))) (170 + 30 * n + (vPh g + vPb m + vPw m)) (3000 + 200 * n + 2 * (vPh g + vPb m + vPw m)) Q 3191 [(5, .int (nI (5 * n))), (4, .ref (A (92, 0))), (3, .ref (A (91, 0))), (2, .ref (A (40, 0))), (1, .ref (A (0, 0))), (0, .ref (b))] [] := by
  have hG := C.st
  obtain ⟨h103, h104, h105, hI1, hI3, hI4, hdr, hsh, hqu, hq9, hU6, hu0, hu, hg0, hg, hf0, hf, hl0, hl, hw0, hw, hc0, hc9, h1, h2, h3, h4, h5, h6, h7, h8, h9, hDE, h12, h13, hq10, hkc, hns⟩ := hb n g m hi (by omega)
  refine v_aload_n (pc := 3191) C dL_law_3191 4 rfl rfl ?_
  refine v_aload_n (pc := 3192) C dL_law_3192 5 rfl rfl ?_
  refine v_iload (pc := 3193) C dL_law_3193 0 rfl ?_
  refine v_iconst (v := 1) (pc := 3195) C dL_law_3195 rfl ?_
  refine v_iadd (pc := 3196) C dL_law_3196 ?_
  refine v_sld (pc := 3197) C hX hbl hbA (ix_1 hn5 hN) dL_law_3197 ?_
  refine v_aload_n (pc := 3198) C dL_law_3198 2 rfl rfl ?_
  obtain ⟨hP1, hP2, hP3, hP4, hP5, hP6⟩ := hp n g m hi (by omega) (sc (5 * n + 1))
  have hroom : (170 + 30 * (n + 1) + (vPh g + vPb (S_X12_conflictAt m (sc (5 * n + 1))) + vPw (S_X12_conflictAt m (sc (5 * n + 1))))) ≤ 603072 ∧ (3000 + 200 * (n + 1) + 2 * (vPh g + vPb (S_X12_conflictAt m (sc (5 * n + 1))) + vPw (S_X12_conflictAt m (sc (5 * n + 1))))) ≤ 7207017 := by obtain ⟨-, -, -, -, -, -, -, -, -, -, -, -, -, -, -, -, -, -, -, -, -, -, -, -, -, -, -, -, -, -, -, -, -, -, -, -, z1, z2⟩ := hb (n + 1) _ _ hP3 (by omega); exact ⟨z1, z2⟩
  refine v_callSH (pc := 3199) C (c_L_conflictAt hG (g := g) (r := wm m (rL N sc o d)) (sc (5 * n + 1)) (o := o) ((wm_at (by decide)).trans rL_91)) 3 wd_1305 wd_61 wd_1303 wd_1304 (by decide +kernel) (by decide) (by decide) rfl ([]) rfl (Nat.le_of_ble_eq_true rfl) ⟨by omega, by omega⟩ dL_law_3199 (fun v9 A_1 h9 hR9 => ?_)
  obtain ⟨rfl, hA_1, rfl⟩ := hR9
  refine v_st (k2 := ((170 + 30 * n + (vPh g + vPb m + vPw m)) + 1)) (n2 := ((3000 + 200 * n + 2 * (vPh g + vPb m + vPw m)) + 6)) (st2 := [.int (K_L_conflictAt (X_X11_conflictAt g (sc (5 * n + 1))))]) rfl rfl rfl ?_
  refine v_lve (lv2 := [(5, .int (nI (5 * n))), (4, .ref (A_1 (92, 0))), (3, .ref (A_1 (91, 0))), (2, .ref (A_1 (40, 0))), (1, .ref (A_1 (0, 0))), (0, .ref (b))]) (by rw [hA_1 (92, 0) (Or.inr (Nat.le_of_ble_eq_true rfl)), hA_1 (91, 0) (Or.inr (Nat.le_of_ble_eq_true rfl)), hA_1 (40, 0) (Or.inr (Nat.le_of_ble_eq_true rfl)), hA_1 (0, 0) (Or.inl (Nat.le_of_ble_eq_true rfl))]) ?_
  refine v_h (h2 := wm m (w g (rL N sc (if X_X11_conflictAt g (sc (5 * n + 1)) = 0 then vp_updL o 0 ((V_X11_conflictAt g (sc (5 * n + 1))).toInt64) else o) d))) ((congrArg (w g) rL_ifo).trans w_wm.symm) ?_
  refine v_istore (lv2 := [(6, .int (K_L_conflictAt (X_X11_conflictAt g (sc (5 * n + 1))))), (5, .int (nI (5 * n))), (4, .ref (A_1 (92, 0))), (3, .ref (A_1 (91, 0))), (2, .ref (A_1 (40, 0))), (1, .ref (A_1 (0, 0))), (0, .ref (b))]) (pc := 3202) C dL_law_3202 (by decide) rfl ?_
  refine v_aload_n (pc := 3204) C dL_law_3204 4 rfl rfl ?_
  refine v_aload_n (pc := 3205) C dL_law_3205 6 rfl rfl ?_
  refine v_iload (pc := 3206) C dL_law_3206 1 rfl ?_
  refine v_iconst (v := 1) (pc := 3208) C dL_law_3208 rfl ?_
  refine v_iadd (pc := 3209) C dL_law_3209 ?_
  refine v_sld (pc := 3210) C hX hbl hbA (ix_1 hn5 hN) dL_law_3210 ?_
  refine v_callV (pc := 3211) C (40, 0) ck_40 rfl (c_X12_conflictAt hG (g := m) (r := w g (rL N sc (if X_X11_conflictAt g (sc (5 * n + 1)) = 0 then vp_updL o 0 ((V_X11_conflictAt g (sc (5 * n + 1))).toInt64) else o) d)) (sc (5 * n + 1)) hu0 hu hg0 hg hf0 hf hc0 hc9) 1 wd_1853 wd_68 wd_1850 wd_1851 wd_1852 (by decide +kernel) (by decide) (by decide) rfl ([]) rfl (Nat.le_of_ble_eq_true rfl) ⟨by omega, by omega⟩ dL_law_3211 (fun _ _ _ q => q.elim) (fun v9 A_2 h9 hR9 => ?_)
  obtain ⟨rfl, hA_2, rfl⟩ := hR9
  refine v_st (k2 := (((170 + 30 * n + (vPh g + vPb m + vPw m)) + 1) + 0)) (n2 := (((3000 + 200 * n + 2 * (vPh g + vPb m + vPw m)) + 6) + 0)) (st2 := [.int (V_X12_conflictAt m (sc (5 * n + 1)))]) rfl rfl rfl ?_
  obtain rfl := hA_2.symm
  refine v_istore (lv2 := [(7, .int (V_X12_conflictAt m (sc (5 * n + 1)))), (6, .int (K_L_conflictAt (X_X11_conflictAt g (sc (5 * n + 1))))), (5, .int (nI (5 * n))), (4, .ref (A_1 (92, 0))), (3, .ref (A_1 (91, 0))), (2, .ref (A_1 (40, 0))), (1, .ref (A_1 (0, 0))), (0, .ref (b))]) (pc := 3214) C dL_law_3214 (by decide) rfl ?_
  refine v_aload_n (pc := 3216) C dL_law_3216 5 rfl rfl ?_
  refine v_callV (pc := 3217) C (40, 0) ck_40 rfl (c_X12_thrown hG (g := (S_X12_conflictAt m (sc (5 * n + 1))))) 0 wd_1377 wd_68 wd_1374 wd_1375 wd_1376 (by decide +kernel) (by decide) (by decide) rfl ([]) rfl (Nat.le_of_ble_eq_true rfl) ⟨by omega, by omega⟩ dL_law_3217 (fun _ _ _ q => q.elim) (fun v9 A9 h9 hR9 => ?_)
  obtain ⟨rfl, hA9, rfl⟩ := hR9
  obtain rfl := hA9.symm
  refine v_st (k2 := (((170 + 30 * n + (vPh g + vPb m + vPw m)) + 1) + 0)) (n2 := (((3000 + 200 * n + 2 * (vPh g + vPb m + vPw m)) + 6) + 0)) (st2 := [.int (V_X12_thrown (S_X12_conflictAt m (sc (5 * n + 1))))]) rfl rfl rfl ?_
  refine v_iload (pc := 3220) C dL_law_3220 1 rfl ?_
  refine v_icmp_eq (pc := 3222) (tgt := 3227) C dL_law_3222 (by decide) (fun c3 => ?_) (fun c3 => ?_)
  · skip
    refine v_iload (pc := 3227) C dL_law_3227 1 rfl ?_
    refine v_if_ne (pc := 3229) (tgt := 3244) C dL_law_3229 (by decide) (fun c4 => ?_) (fun c4 => ?_)
    · skip
      refine v_goto (tgt := 3502) (pc := 3244) C dL_law_3244 (by decide) ?_
      refine v_lv (lv2 := [(5, .int (nI (5 * n))), (4, .ref (A_1 (92, 0))), (3, .ref (A_1 (91, 0))), (2, .ref (A_1 (40, 0))), (1, .ref (A_1 (0, 0))), (0, .ref (b))]) [2, 3, 4, 5, 6, 7] rfl ?_
      refine v_h (h2 := w g (wm (S_X12_conflictAt m (sc (5 * n + 1))) (rL N sc (if X_X11_conflictAt g (sc (5 * n + 1)) = 0 then vp_updL o 0 ((V_X11_conflictAt g (sc (5 * n + 1))).toInt64) else o) d))) w_wm ?_
      refine v_widen (k2 := (170 + 30 * (n + 1) + (vPh g + vPb (S_X12_conflictAt m (sc (5 * n + 1))) + vPw (S_X12_conflictAt m (sc (5 * n + 1)))))) (n2 := (3000 + 200 * (n + 1) + 2 * (vPh g + vPb (S_X12_conflictAt m (sc (5 * n + 1))) + vPw (S_X12_conflictAt m (sc (5 * n + 1)))))) (by omega) (by omega) ?_
      exact k A_1 g (S_X12_conflictAt m (sc (5 * n + 1))) (if X_X11_conflictAt g (sc (5 * n + 1)) = 0 then vp_updL o 0 ((V_X11_conflictAt g (sc (5 * n + 1))).toInt64) else o) d (vAs_0 hA_1) hP3
    · skip
      have hX0 := kz_conflictAt (E_X_X11_conflictAt ..) c4
      have hVV := hP2 hX0
      refine v_aload_n (pc := 3232) C dL_law_3232 4 rfl rfl ?_
      refine v_iconst (v := 0) (pc := 3233) C dL_law_3233 rfl ?_
      refine v_lald (pc := 3234) C (91, 0) (v := (V_X11_conflictAt g (sc (5 * n + 1))).toInt64) ((wm_at (by decide)).trans ((w_at (by decide)).trans rL_91)) (by simp only [vp_in_iff]; decide) ((congrFun (if_pos hX0) _).trans rfl) dL_law_3234 ?_
      refine v_iload (pc := 3235) C dL_law_3235 0 rfl ?_
      refine v_i2l (pc := 3237) C dL_law_3237 rfl ?_
      refine v_lcmp (pc := 3238) C dL_law_3238 ?_
      refine v_if_eq (pc := 3239) (tgt := 3244) C dL_law_3239 (by decide) (fun c5 => ?_) (fun c5 => ?_)
      · skip
        refine v_goto (tgt := 3502) (pc := 3244) C dL_law_3244 (by decide) ?_
        refine v_lv (lv2 := [(5, .int (nI (5 * n))), (4, .ref (A_1 (92, 0))), (3, .ref (A_1 (91, 0))), (2, .ref (A_1 (40, 0))), (1, .ref (A_1 (0, 0))), (0, .ref (b))]) [2, 3, 4, 5, 6, 7] rfl ?_
        refine v_h (h2 := w g (wm (S_X12_conflictAt m (sc (5 * n + 1))) (rL N sc (if X_X11_conflictAt g (sc (5 * n + 1)) = 0 then vp_updL o 0 ((V_X11_conflictAt g (sc (5 * n + 1))).toInt64) else o) d))) w_wm ?_
        refine v_widen (k2 := (170 + 30 * (n + 1) + (vPh g + vPb (S_X12_conflictAt m (sc (5 * n + 1))) + vPw (S_X12_conflictAt m (sc (5 * n + 1)))))) (n2 := (3000 + 200 * (n + 1) + 2 * (vPh g + vPb (S_X12_conflictAt m (sc (5 * n + 1))) + vPw (S_X12_conflictAt m (sc (5 * n + 1)))))) (by omega) (by omega) ?_
        exact k A_1 g (S_X12_conflictAt m (sc (5 * n + 1))) (if X_X11_conflictAt g (sc (5 * n + 1)) = 0 then vp_updL o 0 ((V_X11_conflictAt g (sc (5 * n + 1))).toInt64) else o) d (vAs_0 hA_1) hP3
      · skip
        exact absurd (by rw [hVV]; exact lg_self) c5
  · skip
    exact absurd (thrown_eq hP1) c3
set_option maxHeartbeats 4000000 in
set_option maxRecDepth 100000 in
theorem cs_load {I : Nat → vS → vS → Prop} (hb : PZ_base I) (hp : PZ_load I) {G : vG} {X : vX} {mn : String} (C : vC G X cL_law 9 RL (some .boolean) mn 2040 603072 7207017) {A : vN → Nat} {n : Nat} {g m : vS} {N : Nat} {sc : Nat → Int32} {o : Nat → Int64} {d : Nat → UInt64} {Q : State → Prop} {b : Nat} (hX : va_X b N sc X.2.2.2.2.1 X.2.2.2.2.1.heap) (hbl : b < X.2.2.2.2.1.heap.size) (hbA : ¬ vAd G b) (hi : I n g m) (hn5 : 5 * n + 5 ≤ N) (hN : N ≤ 2560) (k : ∀ (A2 : vN → Nat) (g2 m2 : vS) (o2 : Nat → Int64) (d2 : Nat → UInt64), vAs 1 82 A2 A → I (n + 1) g2 m2 → V G 9 X A2 (w g2 (wm m2 (rL N sc o2 d2))) (170 + 30 * (n + 1) + (vPh g2 + vPb m2 + vPw m2)) (3000 + 200 * (n + 1) + 2 * (vPh g2 + vPb m2 + vPw m2)) Q 3502 [(5, .int (nI (5 * n))), (4, .ref (A2 (92, 0))), (3, .ref (A2 (91, 0))), (2, .ref (A2 (40, 0))), (1, .ref (A2 (0, 0))), (0, .ref (b))] []) : V G 9 X A (w g (wm m (rL N sc o d))) (170 + 30 * n + (vPh g + vPb m + vPw m)) (3000 + 200 * n + 2 * (vPh g + vPb m + vPw m)) Q 3247 [(5, .int (nI (5 * n))), (4, .ref (A (92, 0))), (3, .ref (A (91, 0))), (2, .ref (A (40, 0))), (1, .ref (A (0, 0))), (0, .ref (b))] [] := by
  have hG := C.st
  obtain ⟨h103, h104, h105, hI1, hI3, hI4, hdr, hsh, hqu, hq9, hU6, hu0, hu, hg0, hg, hf0, hf, hl0, hl, hw0, hw, hc0, hc9, h1, h2, h3, h4, h5, h6, h7, h8, h9, hDE, h12, h13, hq10, hkc, hns⟩ := hb n g m hi (by omega)
  refine v_aload_n (pc := 3247) C dL_law_3247 4 rfl rfl ?_
  refine v_aload_n (pc := 3248) C dL_law_3248 5 rfl rfl ?_
  refine v_iload (pc := 3249) C dL_law_3249 0 rfl ?_
  refine v_iconst (v := 1) (pc := 3251) C dL_law_3251 rfl ?_
  refine v_iadd (pc := 3252) C dL_law_3252 ?_
  refine v_sld (pc := 3253) C hX hbl hbA (ix_1 hn5 hN) dL_law_3253 ?_
  refine v_aload (pc := 3254) C dL_law_3254 1 rfl ?_
  obtain ⟨hP1, hP2, hP3, hP4, hP5, hP6⟩ := hp n g m hi (by omega) (sc (5 * n + 1))
  have hroom : (170 + 30 * (n + 1) + (vPh g + vPb (S_X12_load m (sc (5 * n + 1))) + vPw (S_X12_load m (sc (5 * n + 1))))) ≤ 603072 ∧ (3000 + 200 * (n + 1) + 2 * (vPh g + vPb (S_X12_load m (sc (5 * n + 1))) + vPw (S_X12_load m (sc (5 * n + 1))))) ≤ 7207017 := by obtain ⟨-, -, -, -, -, -, -, -, -, -, -, -, -, -, -, -, -, -, -, -, -, -, -, -, -, -, -, -, -, -, -, -, -, -, -, -, z1, z2⟩ := hb (n + 1) _ _ hP3 (by omega); exact ⟨z1, z2⟩
  refine v_callSH (pc := 3256) C (c_L_load hG (g := g) (r := wm m (rL N sc o d)) (sc (5 * n + 1)) (hqu _) hI1 (o := d) ((wm_at (by decide)).trans rL_92)) 3 wd_1313 wd_61 wd_1311 wd_1312 (by decide +kernel) (by decide) (by decide) rfl ([]) rfl (Nat.le_of_ble_eq_true rfl) ⟨by omega, by omega⟩ dL_law_3256 (fun v9 A_1 h9 hR9 => ?_)
  obtain ⟨rfl, hA_1, rfl⟩ := hR9
  refine v_st (k2 := ((170 + 30 * n + (vPh g + vPb m + vPw m)) + 1)) (n2 := ((3000 + 200 * n + 2 * (vPh g + vPb m + vPw m)) + 6)) (st2 := [.int (K_L_load (X_X11_load g (sc (5 * n + 1))))]) rfl rfl rfl ?_
  refine v_lve (lv2 := [(5, .int (nI (5 * n))), (4, .ref (A_1 (92, 0))), (3, .ref (A_1 (91, 0))), (2, .ref (A_1 (40, 0))), (1, .ref (A_1 (0, 0))), (0, .ref (b))]) (by rw [hA_1 (92, 0) (Or.inr (Nat.le_of_ble_eq_true rfl)), hA_1 (91, 0) (Or.inr (Nat.le_of_ble_eq_true rfl)), hA_1 (40, 0) (Or.inr (Nat.le_of_ble_eq_true rfl)), hA_1 (0, 0) (Or.inl (Nat.le_of_ble_eq_true rfl))]) ?_
  refine v_h (h2 := wm m (w g (rL N sc o (if X_X11_load g (sc (5 * n + 1)) = 0 then vf_upd d 0 ((FP.f2d (V_X11_load g (sc (5 * n + 1))))) else d)))) ((congrArg (w g) rL_ifd).trans w_wm.symm) ?_
  refine v_istore (lv2 := [(6, .int (K_L_load (X_X11_load g (sc (5 * n + 1))))), (5, .int (nI (5 * n))), (4, .ref (A_1 (92, 0))), (3, .ref (A_1 (91, 0))), (2, .ref (A_1 (40, 0))), (1, .ref (A_1 (0, 0))), (0, .ref (b))]) (pc := 3259) C dL_law_3259 (by decide) rfl ?_
  refine v_aload_n (pc := 3261) C dL_law_3261 4 rfl rfl ?_
  refine v_aload_n (pc := 3262) C dL_law_3262 6 rfl rfl ?_
  refine v_iload (pc := 3263) C dL_law_3263 1 rfl ?_
  refine v_iconst (v := 1) (pc := 3265) C dL_law_3265 rfl ?_
  refine v_iadd (pc := 3266) C dL_law_3266 ?_
  refine v_sld (pc := 3267) C hX hbl hbA (ix_1 hn5 hN) dL_law_3267 ?_
  refine v_callV (pc := 3268) C (40, 0) ck_40 rfl (c_X12_load hG (g := m) (r := w g (rL N sc o (if X_X11_load g (sc (5 * n + 1)) = 0 then vf_upd d 0 ((FP.f2d (V_X11_load g (sc (5 * n + 1))))) else d))) (sc (5 * n + 1)) hu0 hu hg0 hg hf0 hf h6) 1 wd_1857 wd_68 wd_1854 wd_1855 wd_1856 (by decide +kernel) (by decide) (by decide) rfl ([]) rfl (Nat.le_of_ble_eq_true rfl) ⟨by omega, by omega⟩ dL_law_3268 (fun _ _ _ q => q.elim) (fun v9 A_2 h9 hR9 => ?_)
  obtain ⟨rfl, hA_2, rfl⟩ := hR9
  refine v_st (k2 := (((170 + 30 * n + (vPh g + vPb m + vPw m)) + 1) + 0)) (n2 := (((3000 + 200 * n + 2 * (vPh g + vPb m + vPw m)) + 6) + 0)) (st2 := [.float (V_X12_load m (sc (5 * n + 1)))]) rfl rfl rfl ?_
  obtain rfl := hA_2.symm
  refine v_fstore (lv2 := [(7, .float (V_X12_load m (sc (5 * n + 1)))), (6, .int (K_L_load (X_X11_load g (sc (5 * n + 1))))), (5, .int (nI (5 * n))), (4, .ref (A_1 (92, 0))), (3, .ref (A_1 (91, 0))), (2, .ref (A_1 (40, 0))), (1, .ref (A_1 (0, 0))), (0, .ref (b))]) (pc := 3271) C dL_law_3271 (by decide) rfl ?_
  refine v_aload_n (pc := 3273) C dL_law_3273 5 rfl rfl ?_
  refine v_callV (pc := 3274) C (40, 0) ck_40 rfl (c_X12_thrown hG (g := (S_X12_load m (sc (5 * n + 1))))) 0 wd_1377 wd_68 wd_1374 wd_1375 wd_1376 (by decide +kernel) (by decide) (by decide) rfl ([]) rfl (Nat.le_of_ble_eq_true rfl) ⟨by omega, by omega⟩ dL_law_3274 (fun _ _ _ q => q.elim) (fun v9 A9 h9 hR9 => ?_)
  obtain ⟨rfl, hA9, rfl⟩ := hR9
  obtain rfl := hA9.symm
  refine v_st (k2 := (((170 + 30 * n + (vPh g + vPb m + vPw m)) + 1) + 0)) (n2 := (((3000 + 200 * n + 2 * (vPh g + vPb m + vPw m)) + 6) + 0)) (st2 := [.int (V_X12_thrown (S_X12_load m (sc (5 * n + 1))))]) rfl rfl rfl ?_
  refine v_iload (pc := 3277) C dL_law_3277 1 rfl ?_
  refine v_icmp_eq (pc := 3279) (tgt := 3284) C dL_law_3279 (by decide) (fun c3 => ?_) (fun c3 => ?_)
  · skip
    refine v_iload (pc := 3284) C dL_law_3284 1 rfl ?_
    refine v_if_ne (pc := 3286) (tgt := 3322) C dL_law_3286 (by decide) (fun c4 => ?_) (fun c4 => ?_)
    · skip
      refine v_goto (tgt := 3502) (pc := 3322) C dL_law_3322 (by decide) ?_
      refine v_lv (lv2 := [(5, .int (nI (5 * n))), (4, .ref (A_1 (92, 0))), (3, .ref (A_1 (91, 0))), (2, .ref (A_1 (40, 0))), (1, .ref (A_1 (0, 0))), (0, .ref (b))]) [2, 3, 4, 5, 6, 7] rfl ?_
      refine v_h (h2 := w g (wm (S_X12_load m (sc (5 * n + 1))) (rL N sc o (if X_X11_load g (sc (5 * n + 1)) = 0 then vf_upd d 0 ((FP.f2d (V_X11_load g (sc (5 * n + 1))))) else d)))) w_wm ?_
      refine v_widen (k2 := (170 + 30 * (n + 1) + (vPh g + vPb (S_X12_load m (sc (5 * n + 1))) + vPw (S_X12_load m (sc (5 * n + 1)))))) (n2 := (3000 + 200 * (n + 1) + 2 * (vPh g + vPb (S_X12_load m (sc (5 * n + 1))) + vPw (S_X12_load m (sc (5 * n + 1)))))) (by omega) (by omega) ?_
      exact k A_1 g (S_X12_load m (sc (5 * n + 1))) o (if X_X11_load g (sc (5 * n + 1)) = 0 then vf_upd d 0 ((FP.f2d (V_X11_load g (sc (5 * n + 1))))) else d) (vAs_0 hA_1) hP3
    · skip
      have hX0 := kz_load (E_X_X11_load ..) c4
      have hVV := hP2 hX0
      refine v_aload (pc := 3289) C dL_law_3289 3 rfl ?_
      refine v_iconst (v := 0) (pc := 3291) C dL_law_3291 rfl ?_
      refine v_dald (pc := 3292) C (92, 0) (v := (FP.f2d (V_X11_load g (sc (5 * n + 1))))) ((wm_at (by decide)).trans ((w_at (by decide)).trans rL_92)) (by simp only [vp_in_iff]; decide) ((congrFun (if_pos hX0) _).trans rfl) dL_law_3292 ?_
      refine v_fload (pc := 3293) C dL_law_3293 0 rfl ?_
      refine v_f2d (pc := 3295) C dL_law_3295 (fn64_f2d (by rw [← hP2 hX0]; exact nan_load (hqu _))) ?_
      refine v_dcmp (pc := 3296) C dL_law_3296 ?_
      refine v_if_eq (pc := 3297) (tgt := 3322) C dL_law_3297 (by decide) (fun c5 => ?_) (fun c5 => ?_)
      · skip
        refine v_goto (tgt := 3502) (pc := 3322) C dL_law_3322 (by decide) ?_
        refine v_lv (lv2 := [(5, .int (nI (5 * n))), (4, .ref (A_1 (92, 0))), (3, .ref (A_1 (91, 0))), (2, .ref (A_1 (40, 0))), (1, .ref (A_1 (0, 0))), (0, .ref (b))]) [2, 3, 4, 5, 6, 7] rfl ?_
        refine v_h (h2 := w g (wm (S_X12_load m (sc (5 * n + 1))) (rL N sc o (if X_X11_load g (sc (5 * n + 1)) = 0 then vf_upd d 0 ((FP.f2d (V_X11_load g (sc (5 * n + 1))))) else d)))) w_wm ?_
        refine v_widen (k2 := (170 + 30 * (n + 1) + (vPh g + vPb (S_X12_load m (sc (5 * n + 1))) + vPw (S_X12_load m (sc (5 * n + 1)))))) (n2 := (3000 + 200 * (n + 1) + 2 * (vPh g + vPb (S_X12_load m (sc (5 * n + 1))) + vPw (S_X12_load m (sc (5 * n + 1)))))) (by omega) (by omega) ?_
        exact k A_1 g (S_X12_load m (sc (5 * n + 1))) o (if X_X11_load g (sc (5 * n + 1)) = 0 then vf_upd d 0 ((FP.f2d (V_X11_load g (sc (5 * n + 1))))) else d) (vAs_0 hA_1) hP3
      · skip
        exact absurd (by rw [← hVV]; exact dcmp_l (fn64_f2d (nan_load (hqu _)))) c5
  · skip
    exact absurd (thrown_eq hP1) c3
set_option maxHeartbeats 4000000 in
set_option maxRecDepth 100000 in
theorem cs_loadBits {I : Nat → vS → vS → Prop} (hb : PZ_base I) (hp : PZ_loadBits I) {G : vG} {X : vX} {mn : String} (C : vC G X cL_law 9 RL (some .boolean) mn 2040 603072 7207017) {A : vN → Nat} {n : Nat} {g m : vS} {N : Nat} {sc : Nat → Int32} {o : Nat → Int64} {d : Nat → UInt64} {Q : State → Prop} {b : Nat} (hX : va_X b N sc X.2.2.2.2.1 X.2.2.2.2.1.heap) (hbl : b < X.2.2.2.2.1.heap.size) (hbA : ¬ vAd G b) (hi : I n g m) (hn5 : 5 * n + 5 ≤ N) (hN : N ≤ 2560) (k : ∀ (A2 : vN → Nat) (g2 m2 : vS) (o2 : Nat → Int64) (d2 : Nat → UInt64), vAs 1 82 A2 A → I (n + 1) g2 m2 → V G 9 X A2 (w g2 (wm m2 (rL N sc o2 d2))) (170 + 30 * (n + 1) + (vPh g2 + vPb m2 + vPw m2)) (3000 + 200 * (n + 1) + 2 * (vPh g2 + vPb m2 + vPw m2)) Q 3502 [(5, .int (nI (5 * n))), (4, .ref (A2 (92, 0))), (3, .ref (A2 (91, 0))), (2, .ref (A2 (40, 0))), (1, .ref (A2 (0, 0))), (0, .ref (b))] []) : V G 9 X A (w g (wm m (rL N sc o d))) (170 + 30 * n + (vPh g + vPb m + vPw m)) (3000 + 200 * n + 2 * (vPh g + vPb m + vPw m)) Q 3325 [(5, .int (nI (5 * n))), (4, .ref (A (92, 0))), (3, .ref (A (91, 0))), (2, .ref (A (40, 0))), (1, .ref (A (0, 0))), (0, .ref (b))] [] := by
  have hG := C.st
  obtain ⟨h103, h104, h105, hI1, hI3, hI4, hdr, hsh, hqu, hq9, hU6, hu0, hu, hg0, hg, hf0, hf, hl0, hl, hw0, hw, hc0, hc9, h1, h2, h3, h4, h5, h6, h7, h8, h9, hDE, h12, h13, hq10, hkc, hns⟩ := hb n g m hi (by omega)
  refine v_aload_n (pc := 3325) C dL_law_3325 4 rfl rfl ?_
  refine v_aload_n (pc := 3326) C dL_law_3326 5 rfl rfl ?_
  refine v_iload (pc := 3327) C dL_law_3327 0 rfl ?_
  refine v_iconst (v := 1) (pc := 3329) C dL_law_3329 rfl ?_
  refine v_iadd (pc := 3330) C dL_law_3330 ?_
  refine v_sld (pc := 3331) C hX hbl hbA (ix_1 hn5 hN) dL_law_3331 ?_
  refine v_aload_n (pc := 3332) C dL_law_3332 2 rfl rfl ?_
  obtain ⟨hP1, hP2, hP3, hP4, hP5, hP6⟩ := hp n g m hi (by omega) (sc (5 * n + 1))
  have hroom : (170 + 30 * (n + 1) + (vPh g + vPb (S_X12_loadBits m (sc (5 * n + 1))) + vPw (S_X12_loadBits m (sc (5 * n + 1))))) ≤ 603072 ∧ (3000 + 200 * (n + 1) + 2 * (vPh g + vPb (S_X12_loadBits m (sc (5 * n + 1))) + vPw (S_X12_loadBits m (sc (5 * n + 1))))) ≤ 7207017 := by obtain ⟨-, -, -, -, -, -, -, -, -, -, -, -, -, -, -, -, -, -, -, -, -, -, -, -, -, -, -, -, -, -, -, -, -, -, -, -, z1, z2⟩ := hb (n + 1) _ _ hP3 (by omega); exact ⟨z1, z2⟩
  refine v_callSH (pc := 3333) C (c_L_loadBits hG (g := g) (r := wm m (rL N sc o d)) (sc (5 * n + 1)) (hqu _) hI1 (o := o) ((wm_at (by decide)).trans rL_91)) 3 wd_1324 wd_61 wd_1322 wd_1323 (by decide +kernel) (by decide) (by decide) rfl ([]) rfl (Nat.le_of_ble_eq_true rfl) ⟨by omega, by omega⟩ dL_law_3333 (fun v9 A_1 h9 hR9 => ?_)
  obtain ⟨rfl, hA_1, rfl⟩ := hR9
  refine v_st (k2 := ((170 + 30 * n + (vPh g + vPb m + vPw m)) + 1)) (n2 := ((3000 + 200 * n + 2 * (vPh g + vPb m + vPw m)) + 6)) (st2 := [.int (K_L_loadBits (X_X11_loadBits g (sc (5 * n + 1))))]) rfl rfl rfl ?_
  refine v_lve (lv2 := [(5, .int (nI (5 * n))), (4, .ref (A_1 (92, 0))), (3, .ref (A_1 (91, 0))), (2, .ref (A_1 (40, 0))), (1, .ref (A_1 (0, 0))), (0, .ref (b))]) (by rw [hA_1 (92, 0) (Or.inr (Nat.le_of_ble_eq_true rfl)), hA_1 (91, 0) (Or.inr (Nat.le_of_ble_eq_true rfl)), hA_1 (40, 0) (Or.inr (Nat.le_of_ble_eq_true rfl)), hA_1 (0, 0) (Or.inl (Nat.le_of_ble_eq_true rfl))]) ?_
  refine v_h (h2 := wm m (w g (rL N sc (if X_X11_loadBits g (sc (5 * n + 1)) = 0 then vp_updL o 0 ((V_X11_loadBits g (sc (5 * n + 1))).toInt64) else o) d))) ((congrArg (w g) rL_ifo).trans w_wm.symm) ?_
  refine v_istore (lv2 := [(6, .int (K_L_loadBits (X_X11_loadBits g (sc (5 * n + 1))))), (5, .int (nI (5 * n))), (4, .ref (A_1 (92, 0))), (3, .ref (A_1 (91, 0))), (2, .ref (A_1 (40, 0))), (1, .ref (A_1 (0, 0))), (0, .ref (b))]) (pc := 3336) C dL_law_3336 (by decide) rfl ?_
  refine v_aload_n (pc := 3338) C dL_law_3338 4 rfl rfl ?_
  refine v_aload_n (pc := 3339) C dL_law_3339 6 rfl rfl ?_
  refine v_iload (pc := 3340) C dL_law_3340 1 rfl ?_
  refine v_iconst (v := 1) (pc := 3342) C dL_law_3342 rfl ?_
  refine v_iadd (pc := 3343) C dL_law_3343 ?_
  refine v_sld (pc := 3344) C hX hbl hbA (ix_1 hn5 hN) dL_law_3344 ?_
  refine v_callV (pc := 3345) C (40, 0) ck_40 rfl (c_X12_loadBits hG (g := m) (r := w g (rL N sc (if X_X11_loadBits g (sc (5 * n + 1)) = 0 then vp_updL o 0 ((V_X11_loadBits g (sc (5 * n + 1))).toInt64) else o) d)) (sc (5 * n + 1)) hu0 hu hg0 hg hf0 hf h6) 1 wd_1861 wd_68 wd_1858 wd_1859 wd_1860 (by decide +kernel) (by decide) (by decide) rfl ([]) rfl (Nat.le_of_ble_eq_true rfl) ⟨by omega, by omega⟩ dL_law_3345 (fun _ _ _ q => q.elim) (fun v9 A_2 h9 hR9 => ?_)
  obtain ⟨rfl, hA_2, rfl⟩ := hR9
  refine v_st (k2 := (((170 + 30 * n + (vPh g + vPb m + vPw m)) + 1) + 0)) (n2 := (((3000 + 200 * n + 2 * (vPh g + vPb m + vPw m)) + 6) + 0)) (st2 := [.int (V_X12_loadBits m (sc (5 * n + 1)))]) rfl rfl rfl ?_
  obtain rfl := hA_2.symm
  refine v_istore (lv2 := [(7, .int (V_X12_loadBits m (sc (5 * n + 1)))), (6, .int (K_L_loadBits (X_X11_loadBits g (sc (5 * n + 1))))), (5, .int (nI (5 * n))), (4, .ref (A_1 (92, 0))), (3, .ref (A_1 (91, 0))), (2, .ref (A_1 (40, 0))), (1, .ref (A_1 (0, 0))), (0, .ref (b))]) (pc := 3348) C dL_law_3348 (by decide) rfl ?_
  refine v_aload_n (pc := 3350) C dL_law_3350 5 rfl rfl ?_
  refine v_callV (pc := 3351) C (40, 0) ck_40 rfl (c_X12_thrown hG (g := (S_X12_loadBits m (sc (5 * n + 1))))) 0 wd_1377 wd_68 wd_1374 wd_1375 wd_1376 (by decide +kernel) (by decide) (by decide) rfl ([]) rfl (Nat.le_of_ble_eq_true rfl) ⟨by omega, by omega⟩ dL_law_3351 (fun _ _ _ q => q.elim) (fun v9 A9 h9 hR9 => ?_)
  obtain ⟨rfl, hA9, rfl⟩ := hR9
  obtain rfl := hA9.symm
  refine v_st (k2 := (((170 + 30 * n + (vPh g + vPb m + vPw m)) + 1) + 0)) (n2 := (((3000 + 200 * n + 2 * (vPh g + vPb m + vPw m)) + 6) + 0)) (st2 := [.int (V_X12_thrown (S_X12_loadBits m (sc (5 * n + 1))))]) rfl rfl rfl ?_
  refine v_iload (pc := 3354) C dL_law_3354 1 rfl ?_
  refine v_icmp_eq (pc := 3356) (tgt := 3361) C dL_law_3356 (by decide) (fun c3 => ?_) (fun c3 => ?_)
  · skip
    refine v_iload (pc := 3361) C dL_law_3361 1 rfl ?_
    refine v_if_ne (pc := 3363) (tgt := 3378) C dL_law_3363 (by decide) (fun c4 => ?_) (fun c4 => ?_)
    · skip
      refine v_goto (tgt := 3502) (pc := 3378) C dL_law_3378 (by decide) ?_
      refine v_lv (lv2 := [(5, .int (nI (5 * n))), (4, .ref (A_1 (92, 0))), (3, .ref (A_1 (91, 0))), (2, .ref (A_1 (40, 0))), (1, .ref (A_1 (0, 0))), (0, .ref (b))]) [2, 3, 4, 5, 6, 7] rfl ?_
      refine v_h (h2 := w g (wm (S_X12_loadBits m (sc (5 * n + 1))) (rL N sc (if X_X11_loadBits g (sc (5 * n + 1)) = 0 then vp_updL o 0 ((V_X11_loadBits g (sc (5 * n + 1))).toInt64) else o) d))) w_wm ?_
      refine v_widen (k2 := (170 + 30 * (n + 1) + (vPh g + vPb (S_X12_loadBits m (sc (5 * n + 1))) + vPw (S_X12_loadBits m (sc (5 * n + 1)))))) (n2 := (3000 + 200 * (n + 1) + 2 * (vPh g + vPb (S_X12_loadBits m (sc (5 * n + 1))) + vPw (S_X12_loadBits m (sc (5 * n + 1)))))) (by omega) (by omega) ?_
      exact k A_1 g (S_X12_loadBits m (sc (5 * n + 1))) (if X_X11_loadBits g (sc (5 * n + 1)) = 0 then vp_updL o 0 ((V_X11_loadBits g (sc (5 * n + 1))).toInt64) else o) d (vAs_0 hA_1) hP3
    · skip
      have hX0 := kz_loadBits (E_X_X11_loadBits ..) c4
      have hVV := hP2 hX0
      refine v_aload_n (pc := 3366) C dL_law_3366 4 rfl rfl ?_
      refine v_iconst (v := 0) (pc := 3367) C dL_law_3367 rfl ?_
      refine v_lald (pc := 3368) C (91, 0) (v := (V_X11_loadBits g (sc (5 * n + 1))).toInt64) ((wm_at (by decide)).trans ((w_at (by decide)).trans rL_91)) (by simp only [vp_in_iff]; decide) ((congrFun (if_pos hX0) _).trans rfl) dL_law_3368 ?_
      refine v_iload (pc := 3369) C dL_law_3369 0 rfl ?_
      refine v_i2l (pc := 3371) C dL_law_3371 rfl ?_
      refine v_lcmp (pc := 3372) C dL_law_3372 ?_
      refine v_if_eq (pc := 3373) (tgt := 3378) C dL_law_3373 (by decide) (fun c5 => ?_) (fun c5 => ?_)
      · skip
        refine v_goto (tgt := 3502) (pc := 3378) C dL_law_3378 (by decide) ?_
        refine v_lv (lv2 := [(5, .int (nI (5 * n))), (4, .ref (A_1 (92, 0))), (3, .ref (A_1 (91, 0))), (2, .ref (A_1 (40, 0))), (1, .ref (A_1 (0, 0))), (0, .ref (b))]) [2, 3, 4, 5, 6, 7] rfl ?_
        refine v_h (h2 := w g (wm (S_X12_loadBits m (sc (5 * n + 1))) (rL N sc (if X_X11_loadBits g (sc (5 * n + 1)) = 0 then vp_updL o 0 ((V_X11_loadBits g (sc (5 * n + 1))).toInt64) else o) d))) w_wm ?_
        refine v_widen (k2 := (170 + 30 * (n + 1) + (vPh g + vPb (S_X12_loadBits m (sc (5 * n + 1))) + vPw (S_X12_loadBits m (sc (5 * n + 1)))))) (n2 := (3000 + 200 * (n + 1) + 2 * (vPh g + vPb (S_X12_loadBits m (sc (5 * n + 1))) + vPw (S_X12_loadBits m (sc (5 * n + 1)))))) (by omega) (by omega) ?_
        exact k A_1 g (S_X12_loadBits m (sc (5 * n + 1))) (if X_X11_loadBits g (sc (5 * n + 1)) = 0 then vp_updL o 0 ((V_X11_loadBits g (sc (5 * n + 1))).toInt64) else o) d (vAs_0 hA_1) hP3
      · skip
        exact absurd (by rw [hVV]; exact lg_self) c5
  · skip
    exact absurd (thrown_eq hP1) c3
set_option maxHeartbeats 4000000 in
set_option maxRecDepth 100000 in
theorem cs_meanTold {I : Nat → vS → vS → Prop} (hb : PZ_base I) (hp : PZ_meanTold I) {G : vG} {X : vX} {mn : String} (C : vC G X cL_law 9 RL (some .boolean) mn 2040 603072 7207017) {A : vN → Nat} {n : Nat} {g m : vS} {N : Nat} {sc : Nat → Int32} {o : Nat → Int64} {d : Nat → UInt64} {Q : State → Prop} {b : Nat} (hX : va_X b N sc X.2.2.2.2.1 X.2.2.2.2.1.heap) (hbl : b < X.2.2.2.2.1.heap.size) (hbA : ¬ vAd G b) (hi : I n g m) (hn5 : 5 * n + 5 ≤ N) (hN : N ≤ 2560) (k : ∀ (A2 : vN → Nat) (g2 m2 : vS) (o2 : Nat → Int64) (d2 : Nat → UInt64), vAs 1 82 A2 A → I (n + 1) g2 m2 → V G 9 X A2 (w g2 (wm m2 (rL N sc o2 d2))) (170 + 30 * (n + 1) + (vPh g2 + vPb m2 + vPw m2)) (3000 + 200 * (n + 1) + 2 * (vPh g2 + vPb m2 + vPw m2)) Q 3502 [(5, .int (nI (5 * n))), (4, .ref (A2 (92, 0))), (3, .ref (A2 (91, 0))), (2, .ref (A2 (40, 0))), (1, .ref (A2 (0, 0))), (0, .ref (b))] []) : V G 9 X A (w g (wm m (rL N sc o d))) (170 + 30 * n + (vPh g + vPb m + vPw m)) (3000 + 200 * n + 2 * (vPh g + vPb m + vPw m)) Q 3381 [(5, .int (nI (5 * n))), (4, .ref (A (92, 0))), (3, .ref (A (91, 0))), (2, .ref (A (40, 0))), (1, .ref (A (0, 0))), (0, .ref (b))] [] := by
  have hG := C.st
  obtain ⟨h103, h104, h105, hI1, hI3, hI4, hdr, hsh, hqu, hq9, hU6, hu0, hu, hg0, hg, hf0, hf, hl0, hl, hw0, hw, hc0, hc9, h1, h2, h3, h4, h5, h6, h7, h8, h9, hDE, h12, h13, hq10, hkc, hns⟩ := hb n g m hi (by omega)
  refine v_aload_n (pc := 3381) C dL_law_3381 4 rfl rfl ?_
  refine v_aload (pc := 3382) C dL_law_3382 1 rfl ?_
  obtain ⟨hP1, hP2, hP3, hP4, hP5, hP6⟩ := hp n g m hi (by omega)
  have hroom : (170 + 30 * (n + 1) + (vPh g + vPb (S_X12_meanTold m) + vPw (S_X12_meanTold m))) ≤ 603072 ∧ (3000 + 200 * (n + 1) + 2 * (vPh g + vPb (S_X12_meanTold m) + vPw (S_X12_meanTold m))) ≤ 7207017 := by obtain ⟨-, -, -, -, -, -, -, -, -, -, -, -, -, -, -, -, -, -, -, -, -, -, -, -, -, -, -, -, -, -, -, -, -, -, -, -, z1, z2⟩ := hb (n + 1) _ _ hP3 (by omega); exact ⟨z1, z2⟩
  refine v_callSH (pc := 3384) C (c_L_meanTold hG (g := g) (r := wm m (rL N sc o d)) hq9.1 hq9.2 (o := d) ((wm_at (by decide)).trans rL_92)) 2 wd_1335 wd_61 wd_1333 wd_1334 (by decide +kernel) (by decide) (by decide) rfl ([]) rfl (Nat.le_of_ble_eq_true rfl) ⟨by omega, by omega⟩ dL_law_3384 (fun v9 A_1 h9 hR9 => ?_)
  obtain ⟨rfl, hA_1, rfl⟩ := hR9
  refine v_st (k2 := ((170 + 30 * n + (vPh g + vPb m + vPw m)) + 1)) (n2 := ((3000 + 200 * n + 2 * (vPh g + vPb m + vPw m)) + 6)) (st2 := [.int (K_L_meanTold (X_X11_meanTold g))]) rfl rfl rfl ?_
  refine v_lve (lv2 := [(5, .int (nI (5 * n))), (4, .ref (A_1 (92, 0))), (3, .ref (A_1 (91, 0))), (2, .ref (A_1 (40, 0))), (1, .ref (A_1 (0, 0))), (0, .ref (b))]) (by rw [hA_1 (92, 0) (Or.inr (Nat.le_of_ble_eq_true rfl)), hA_1 (91, 0) (Or.inr (Nat.le_of_ble_eq_true rfl)), hA_1 (40, 0) (Or.inr (Nat.le_of_ble_eq_true rfl)), hA_1 (0, 0) (Or.inl (Nat.le_of_ble_eq_true rfl))]) ?_
  refine v_h (h2 := wm m (w g (rL N sc o (if X_X11_meanTold g = 0 then vf_upd d 0 (V_X11_meanTold g) else d)))) ((congrArg (w g) rL_ifd).trans w_wm.symm) ?_
  refine v_istore (lv2 := [(6, .int (K_L_meanTold (X_X11_meanTold g))), (5, .int (nI (5 * n))), (4, .ref (A_1 (92, 0))), (3, .ref (A_1 (91, 0))), (2, .ref (A_1 (40, 0))), (1, .ref (A_1 (0, 0))), (0, .ref (b))]) (pc := 3387) C dL_law_3387 (by decide) rfl ?_
  refine v_aload_n (pc := 3389) C dL_law_3389 4 rfl rfl ?_
  refine v_callV (pc := 3390) C (40, 0) ck_40 rfl (c_X12_meanTold hG (g := m) (r := w g (rL N sc o (if X_X11_meanTold g = 0 then vf_upd d 0 (V_X11_meanTold g) else d))) hq10.1 hq10.2) 0 wd_1876 wd_68 wd_1873 wd_1874 wd_1875 (by decide +kernel) (by decide) (by decide) rfl ([]) rfl (Nat.le_of_ble_eq_true rfl) ⟨by omega, by omega⟩ dL_law_3390 (fun _ _ _ q => q.elim) (fun v9 A_2 h9 hR9 => ?_)
  obtain ⟨rfl, hA_2, rfl⟩ := hR9
  refine v_st (k2 := (((170 + 30 * n + (vPh g + vPb m + vPw m)) + 1) + 0)) (n2 := (((3000 + 200 * n + 2 * (vPh g + vPb m + vPw m)) + 6) + 0)) (st2 := [.double (V_X12_meanTold m)]) rfl rfl rfl ?_
  obtain rfl := hA_2.symm
  refine v_dstore (lv2 := [(7, .double (V_X12_meanTold m)), (6, .int (K_L_meanTold (X_X11_meanTold g))), (5, .int (nI (5 * n))), (4, .ref (A_1 (92, 0))), (3, .ref (A_1 (91, 0))), (2, .ref (A_1 (40, 0))), (1, .ref (A_1 (0, 0))), (0, .ref (b))]) (pc := 3393) C dL_law_3393 (by decide) rfl ?_
  refine v_aload_n (pc := 3395) C dL_law_3395 5 rfl rfl ?_
  refine v_callV (pc := 3396) C (40, 0) ck_40 rfl (c_X12_thrown hG (g := (S_X12_meanTold m))) 0 wd_1377 wd_68 wd_1374 wd_1375 wd_1376 (by decide +kernel) (by decide) (by decide) rfl ([]) rfl (Nat.le_of_ble_eq_true rfl) ⟨by omega, by omega⟩ dL_law_3396 (fun _ _ _ q => q.elim) (fun v9 A9 h9 hR9 => ?_)
  obtain ⟨rfl, hA9, rfl⟩ := hR9
  obtain rfl := hA9.symm
  refine v_st (k2 := (((170 + 30 * n + (vPh g + vPb m + vPw m)) + 1) + 0)) (n2 := (((3000 + 200 * n + 2 * (vPh g + vPb m + vPw m)) + 6) + 0)) (st2 := [.int (V_X12_thrown (S_X12_meanTold m))]) rfl rfl rfl ?_
  refine v_iload (pc := 3399) C dL_law_3399 1 rfl ?_
  refine v_icmp_eq (pc := 3401) (tgt := 3406) C dL_law_3401 (by decide) (fun c3 => ?_) (fun c3 => ?_)
  · skip
    refine v_iload (pc := 3406) C dL_law_3406 1 rfl ?_
    refine v_if_ne (pc := 3408) (tgt := 3443) C dL_law_3408 (by decide) (fun c4 => ?_) (fun c4 => ?_)
    · skip
      refine v_goto (tgt := 3502) (pc := 3443) C dL_law_3443 (by decide) ?_
      refine v_lv (lv2 := [(5, .int (nI (5 * n))), (4, .ref (A_1 (92, 0))), (3, .ref (A_1 (91, 0))), (2, .ref (A_1 (40, 0))), (1, .ref (A_1 (0, 0))), (0, .ref (b))]) [2, 3, 4, 5, 6, 7] rfl ?_
      refine v_h (h2 := w g (wm (S_X12_meanTold m) (rL N sc o (if X_X11_meanTold g = 0 then vf_upd d 0 (V_X11_meanTold g) else d)))) w_wm ?_
      refine v_widen (k2 := (170 + 30 * (n + 1) + (vPh g + vPb (S_X12_meanTold m) + vPw (S_X12_meanTold m)))) (n2 := (3000 + 200 * (n + 1) + 2 * (vPh g + vPb (S_X12_meanTold m) + vPw (S_X12_meanTold m)))) (by omega) (by omega) ?_
      exact k A_1 g (S_X12_meanTold m) o (if X_X11_meanTold g = 0 then vf_upd d 0 (V_X11_meanTold g) else d) (vAs_0 hA_1) hP3
    · skip
      have hX0 := kz_meanTold (E_X_X11_meanTold ..) c4
      have hVV := hP2 hX0
      refine v_aload (pc := 3411) C dL_law_3411 3 rfl ?_
      refine v_iconst (v := 0) (pc := 3413) C dL_law_3413 rfl ?_
      refine v_dald (pc := 3414) C (92, 0) (v := V_X11_meanTold g) ((wm_at (by decide)).trans ((w_at (by decide)).trans rL_92)) (by simp only [vp_in_iff]; decide) ((congrFun (if_pos hX0) _).trans rfl) dL_law_3414 ?_
      refine v_dload (pc := 3415) C dL_law_3415 0 rfl ?_
      refine v_dcmp (pc := 3417) C dL_law_3417 ?_
      refine v_if_eq (pc := 3418) (tgt := 3443) C dL_law_3418 (by decide) (fun c5 => ?_) (fun c5 => ?_)
      · skip
        refine v_goto (tgt := 3502) (pc := 3443) C dL_law_3443 (by decide) ?_
        refine v_lv (lv2 := [(5, .int (nI (5 * n))), (4, .ref (A_1 (92, 0))), (3, .ref (A_1 (91, 0))), (2, .ref (A_1 (40, 0))), (1, .ref (A_1 (0, 0))), (0, .ref (b))]) [2, 3, 4, 5, 6, 7] rfl ?_
        refine v_h (h2 := w g (wm (S_X12_meanTold m) (rL N sc o (if X_X11_meanTold g = 0 then vf_upd d 0 (V_X11_meanTold g) else d)))) w_wm ?_
        refine v_widen (k2 := (170 + 30 * (n + 1) + (vPh g + vPb (S_X12_meanTold m) + vPw (S_X12_meanTold m)))) (n2 := (3000 + 200 * (n + 1) + 2 * (vPh g + vPb (S_X12_meanTold m) + vPw (S_X12_meanTold m)))) (by omega) (by omega) ?_
        exact k A_1 g (S_X12_meanTold m) o (if X_X11_meanTold g = 0 then vf_upd d 0 (V_X11_meanTold g) else d) (vAs_0 hA_1) hP3
      · skip
        exact absurd (by rw [← hVV]; exact dcmp_l (nan_meanTold hq9.1 hq9.2)) c5
  · skip
    exact absurd (thrown_eq hP1) c3
set_option maxHeartbeats 4000000 in
set_option maxRecDepth 100000 in
theorem cs_meanToldBits {I : Nat → vS → vS → Prop} (hb : PZ_base I) (hp : PZ_meanToldBits I) {G : vG} {X : vX} {mn : String} (C : vC G X cL_law 9 RL (some .boolean) mn 2040 603072 7207017) {A : vN → Nat} {n : Nat} {g m : vS} {N : Nat} {sc : Nat → Int32} {o : Nat → Int64} {d : Nat → UInt64} {Q : State → Prop} {b : Nat} (hX : va_X b N sc X.2.2.2.2.1 X.2.2.2.2.1.heap) (hbl : b < X.2.2.2.2.1.heap.size) (hbA : ¬ vAd G b) (hi : I n g m) (hn5 : 5 * n + 5 ≤ N) (hN : N ≤ 2560) (k : ∀ (A2 : vN → Nat) (g2 m2 : vS) (o2 : Nat → Int64) (d2 : Nat → UInt64), vAs 1 82 A2 A → I (n + 1) g2 m2 → V G 9 X A2 (w g2 (wm m2 (rL N sc o2 d2))) (170 + 30 * (n + 1) + (vPh g2 + vPb m2 + vPw m2)) (3000 + 200 * (n + 1) + 2 * (vPh g2 + vPb m2 + vPw m2)) Q 3502 [(5, .int (nI (5 * n))), (4, .ref (A2 (92, 0))), (3, .ref (A2 (91, 0))), (2, .ref (A2 (40, 0))), (1, .ref (A2 (0, 0))), (0, .ref (b))] []) : V G 9 X A (w g (wm m (rL N sc o d))) (170 + 30 * n + (vPh g + vPb m + vPw m)) (3000 + 200 * n + 2 * (vPh g + vPb m + vPw m)) Q 3446 [(5, .int (nI (5 * n))), (4, .ref (A (92, 0))), (3, .ref (A (91, 0))), (2, .ref (A (40, 0))), (1, .ref (A (0, 0))), (0, .ref (b))] [] := by
  have hG := C.st
  obtain ⟨h103, h104, h105, hI1, hI3, hI4, hdr, hsh, hqu, hq9, hU6, hu0, hu, hg0, hg, hf0, hf, hl0, hl, hw0, hw, hc0, hc9, h1, h2, h3, h4, h5, h6, h7, h8, h9, hDE, h12, h13, hq10, hkc, hns⟩ := hb n g m hi (by omega)
  refine v_aload_n (pc := 3446) C dL_law_3446 4 rfl rfl ?_
  refine v_aload_n (pc := 3447) C dL_law_3447 2 rfl rfl ?_
  obtain ⟨hP1, hP2, hP3, hP4, hP5, hP6⟩ := hp n g m hi (by omega)
  have hroom : (170 + 30 * (n + 1) + (vPh g + vPb (S_X12_meanToldBits m) + vPw (S_X12_meanToldBits m))) ≤ 603072 ∧ (3000 + 200 * (n + 1) + 2 * (vPh g + vPb (S_X12_meanToldBits m) + vPw (S_X12_meanToldBits m))) ≤ 7207017 := by obtain ⟨-, -, -, -, -, -, -, -, -, -, -, -, -, -, -, -, -, -, -, -, -, -, -, -, -, -, -, -, -, -, -, -, -, -, -, -, z1, z2⟩ := hb (n + 1) _ _ hP3 (by omega); exact ⟨z1, z2⟩
  refine v_callSH (pc := 3448) C (c_L_meanToldBits hG (g := g) (r := wm m (rL N sc o d)) hq9.1 hq9.2 (o := o) ((wm_at (by decide)).trans rL_91)) 2 wd_1363 wd_61 wd_1361 wd_1362 (by decide +kernel) (by decide) (by decide) rfl ([]) rfl (Nat.le_of_ble_eq_true rfl) ⟨by omega, by omega⟩ dL_law_3448 (fun v9 A_1 h9 hR9 => ?_)
  obtain ⟨rfl, hA_1, rfl⟩ := hR9
  refine v_st (k2 := ((170 + 30 * n + (vPh g + vPb m + vPw m)) + 1)) (n2 := ((3000 + 200 * n + 2 * (vPh g + vPb m + vPw m)) + 6)) (st2 := [.int (K_L_meanToldBits (X_X11_meanToldBits g))]) rfl rfl rfl ?_
  refine v_lve (lv2 := [(5, .int (nI (5 * n))), (4, .ref (A_1 (92, 0))), (3, .ref (A_1 (91, 0))), (2, .ref (A_1 (40, 0))), (1, .ref (A_1 (0, 0))), (0, .ref (b))]) (by rw [hA_1 (92, 0) (Or.inr (Nat.le_of_ble_eq_true rfl)), hA_1 (91, 0) (Or.inr (Nat.le_of_ble_eq_true rfl)), hA_1 (40, 0) (Or.inr (Nat.le_of_ble_eq_true rfl)), hA_1 (0, 0) (Or.inl (Nat.le_of_ble_eq_true rfl))]) ?_
  refine v_h (h2 := wm m (w g (rL N sc (if X_X11_meanToldBits g = 0 then vp_updL o 0 (V_X11_meanToldBits g) else o) d))) ((congrArg (w g) rL_ifo).trans w_wm.symm) ?_
  refine v_istore (lv2 := [(6, .int (K_L_meanToldBits (X_X11_meanToldBits g))), (5, .int (nI (5 * n))), (4, .ref (A_1 (92, 0))), (3, .ref (A_1 (91, 0))), (2, .ref (A_1 (40, 0))), (1, .ref (A_1 (0, 0))), (0, .ref (b))]) (pc := 3451) C dL_law_3451 (by decide) rfl ?_
  refine v_aload_n (pc := 3453) C dL_law_3453 4 rfl rfl ?_
  refine v_callV (pc := 3454) C (40, 0) ck_40 rfl (c_X12_meanToldBits hG (g := m) (r := w g (rL N sc (if X_X11_meanToldBits g = 0 then vp_updL o 0 (V_X11_meanToldBits g) else o) d)) hq10.1 hq10.2) 0 wd_1880 wd_68 wd_1877 wd_1878 wd_1879 (by decide +kernel) (by decide) (by decide) rfl ([]) rfl (Nat.le_of_ble_eq_true rfl) ⟨by omega, by omega⟩ dL_law_3454 (fun _ _ _ q => q.elim) (fun v9 A_2 h9 hR9 => ?_)
  obtain ⟨rfl, hA_2, rfl⟩ := hR9
  refine v_st (k2 := (((170 + 30 * n + (vPh g + vPb m + vPw m)) + 1) + 0)) (n2 := (((3000 + 200 * n + 2 * (vPh g + vPb m + vPw m)) + 6) + 0)) (st2 := [.long (V_X12_meanToldBits m)]) rfl rfl rfl ?_
  obtain rfl := hA_2.symm
  refine v_lstore (lv2 := [(7, .long (V_X12_meanToldBits m)), (6, .int (K_L_meanToldBits (X_X11_meanToldBits g))), (5, .int (nI (5 * n))), (4, .ref (A_1 (92, 0))), (3, .ref (A_1 (91, 0))), (2, .ref (A_1 (40, 0))), (1, .ref (A_1 (0, 0))), (0, .ref (b))]) (pc := 3457) C dL_law_3457 (by decide) rfl ?_
  refine v_aload_n (pc := 3459) C dL_law_3459 5 rfl rfl ?_
  refine v_callV (pc := 3460) C (40, 0) ck_40 rfl (c_X12_thrown hG (g := (S_X12_meanToldBits m))) 0 wd_1377 wd_68 wd_1374 wd_1375 wd_1376 (by decide +kernel) (by decide) (by decide) rfl ([]) rfl (Nat.le_of_ble_eq_true rfl) ⟨by omega, by omega⟩ dL_law_3460 (fun _ _ _ q => q.elim) (fun v9 A9 h9 hR9 => ?_)
  obtain ⟨rfl, hA9, rfl⟩ := hR9
  obtain rfl := hA9.symm
  refine v_st (k2 := (((170 + 30 * n + (vPh g + vPb m + vPw m)) + 1) + 0)) (n2 := (((3000 + 200 * n + 2 * (vPh g + vPb m + vPw m)) + 6) + 0)) (st2 := [.int (V_X12_thrown (S_X12_meanToldBits m))]) rfl rfl rfl ?_
  refine v_iload (pc := 3463) C dL_law_3463 1 rfl ?_
  refine v_icmp_eq (pc := 3465) (tgt := 3470) C dL_law_3465 (by decide) (fun c3 => ?_) (fun c3 => ?_)
  · skip
    refine v_iload (pc := 3470) C dL_law_3470 1 rfl ?_
    refine v_if_ne (pc := 3472) (tgt := 3486) C dL_law_3472 (by decide) (fun c4 => ?_) (fun c4 => ?_)
    · skip
      refine v_goto (tgt := 3502) (pc := 3486) C dL_law_3486 (by decide) ?_
      refine v_lv (lv2 := [(5, .int (nI (5 * n))), (4, .ref (A_1 (92, 0))), (3, .ref (A_1 (91, 0))), (2, .ref (A_1 (40, 0))), (1, .ref (A_1 (0, 0))), (0, .ref (b))]) [2, 3, 4, 5, 6, 7] rfl ?_
      refine v_h (h2 := w g (wm (S_X12_meanToldBits m) (rL N sc (if X_X11_meanToldBits g = 0 then vp_updL o 0 (V_X11_meanToldBits g) else o) d))) w_wm ?_
      refine v_widen (k2 := (170 + 30 * (n + 1) + (vPh g + vPb (S_X12_meanToldBits m) + vPw (S_X12_meanToldBits m)))) (n2 := (3000 + 200 * (n + 1) + 2 * (vPh g + vPb (S_X12_meanToldBits m) + vPw (S_X12_meanToldBits m)))) (by omega) (by omega) ?_
      exact k A_1 g (S_X12_meanToldBits m) (if X_X11_meanToldBits g = 0 then vp_updL o 0 (V_X11_meanToldBits g) else o) d (vAs_0 hA_1) hP3
    · skip
      have hX0 := kz_meanToldBits (E_X_X11_meanToldBits ..) c4
      have hVV := hP2 hX0
      refine v_aload_n (pc := 3475) C dL_law_3475 4 rfl rfl ?_
      refine v_iconst (v := 0) (pc := 3476) C dL_law_3476 rfl ?_
      refine v_lald (pc := 3477) C (91, 0) (v := V_X11_meanToldBits g) ((wm_at (by decide)).trans ((w_at (by decide)).trans rL_91)) (by simp only [vp_in_iff]; decide) ((congrFun (if_pos hX0) _).trans rfl) dL_law_3477 ?_
      refine v_lload (pc := 3478) C dL_law_3478 0 rfl ?_
      refine v_lcmp (pc := 3480) C dL_law_3480 ?_
      refine v_if_eq (pc := 3481) (tgt := 3486) C dL_law_3481 (by decide) (fun c5 => ?_) (fun c5 => ?_)
      · skip
        refine v_goto (tgt := 3502) (pc := 3486) C dL_law_3486 (by decide) ?_
        refine v_lv (lv2 := [(5, .int (nI (5 * n))), (4, .ref (A_1 (92, 0))), (3, .ref (A_1 (91, 0))), (2, .ref (A_1 (40, 0))), (1, .ref (A_1 (0, 0))), (0, .ref (b))]) [2, 3, 4, 5, 6, 7] rfl ?_
        refine v_h (h2 := w g (wm (S_X12_meanToldBits m) (rL N sc (if X_X11_meanToldBits g = 0 then vp_updL o 0 (V_X11_meanToldBits g) else o) d))) w_wm ?_
        refine v_widen (k2 := (170 + 30 * (n + 1) + (vPh g + vPb (S_X12_meanToldBits m) + vPw (S_X12_meanToldBits m)))) (n2 := (3000 + 200 * (n + 1) + 2 * (vPh g + vPb (S_X12_meanToldBits m) + vPw (S_X12_meanToldBits m)))) (by omega) (by omega) ?_
        exact k A_1 g (S_X12_meanToldBits m) (if X_X11_meanToldBits g = 0 then vp_updL o 0 (V_X11_meanToldBits g) else o) d (vAs_0 hA_1) hP3
      · skip
        exact absurd (by rw [hVV]; exact lg_self) c5
  · skip
    exact absurd (thrown_eq hP1) c3
set_option maxHeartbeats 4000000 in
set_option maxRecDepth 100000 in
theorem cs_isSound {I : Nat → vS → vS → Prop} (hb : PZ_base I) (hp : PZ_isSound I) {G : vG} {X : vX} {mn : String} (C : vC G X cL_law 9 RL (some .boolean) mn 2040 603072 7207017) {A : vN → Nat} {n : Nat} {g m : vS} {N : Nat} {sc : Nat → Int32} {o : Nat → Int64} {d : Nat → UInt64} {Q : State → Prop} {b : Nat} (hX : va_X b N sc X.2.2.2.2.1 X.2.2.2.2.1.heap) (hbl : b < X.2.2.2.2.1.heap.size) (hbA : ¬ vAd G b) (hi : I n g m) (hn5 : 5 * n + 5 ≤ N) (hN : N ≤ 2560) (k : ∀ (A2 : vN → Nat) (g2 m2 : vS) (o2 : Nat → Int64) (d2 : Nat → UInt64), vAs 1 82 A2 A → I (n + 1) g2 m2 → V G 9 X A2 (w g2 (wm m2 (rL N sc o2 d2))) (170 + 30 * (n + 1) + (vPh g2 + vPb m2 + vPw m2)) (3000 + 200 * (n + 1) + 2 * (vPh g2 + vPb m2 + vPw m2)) Q 3502 [(5, .int (nI (5 * n))), (4, .ref (A2 (92, 0))), (3, .ref (A2 (91, 0))), (2, .ref (A2 (40, 0))), (1, .ref (A2 (0, 0))), (0, .ref (b))] []) : V G 9 X A (w g (wm m (rL N sc o d))) (170 + 30 * n + (vPh g + vPb m + vPw m)) (3000 + 200 * n + 2 * (vPh g + vPb m + vPw m)) Q 3489 [(5, .int (nI (5 * n))), (4, .ref (A (92, 0))), (3, .ref (A (91, 0))), (2, .ref (A (40, 0))), (1, .ref (A (0, 0))), (0, .ref (b))] [] := by
  have hG := C.st
  obtain ⟨h103, h104, h105, hI1, hI3, hI4, hdr, hsh, hqu, hq9, hU6, hu0, hu, hg0, hg, hf0, hf, hl0, hl, hw0, hw, hc0, hc9, h1, h2, h3, h4, h5, h6, h7, h8, h9, hDE, h12, h13, hq10, hkc, hns⟩ := hb n g m hi (by omega)
  refine v_aload_n (pc := 3489) C dL_law_3489 4 rfl rfl ?_
  obtain ⟨hPV, hP3, hP4, hP5, hP6⟩ := hp n g m hi (by omega)
  have hroom : (170 + 30 * (n + 1) + (vPh (S_X11_isSound g) + vPb (S_X12_isSound m) + vPw (S_X12_isSound m))) ≤ 603072 ∧ (3000 + 200 * (n + 1) + 2 * (vPh (S_X11_isSound g) + vPb (S_X12_isSound m) + vPw (S_X12_isSound m))) ≤ 7207017 := by obtain ⟨-, -, -, -, -, -, -, -, -, -, -, -, -, -, -, -, -, -, -, -, -, -, -, -, -, -, -, -, -, -, -, -, -, -, -, -, z1, z2⟩ := hb (n + 1) _ _ hP3 (by omega); exact ⟨z1, z2⟩
  refine v_callV (pc := 3490) C (0, 0) ck_0 rfl (c_X11_isSound hG (g := g) hU6 hI1) 0 wd_292 wd_62 wd_289 wd_290 wd_291 (by decide +kernel) (by decide) (by decide) rfl ([]) rfl (Nat.le_of_ble_eq_true rfl) ⟨by omega, by omega⟩ dL_law_3490 (fun _ _ _ q => q.elim) (fun v9 A9 h9 hR9 => ?_)
  obtain ⟨rfl, hA9, rfl⟩ := hR9
  obtain rfl := hA9.symm
  refine v_st (k2 := ((170 + 30 * n + (vPh g + vPb m + vPw m)) + 0)) (n2 := ((3000 + 200 * n + 2 * (vPh g + vPb m + vPw m)) + 0)) (st2 := [.int (V_X11_isSound g)]) rfl rfl rfl ?_
  refine v_h (h2 := wm m (w (S_X11_isSound g) (rL N sc o d))) w_wm.symm ?_
  refine v_aload_n (pc := 3493) C dL_law_3493 3 rfl rfl ?_
  refine v_callV (pc := 3494) C (40, 0) ck_40 rfl (c_X12_isSound hG (g := m) (r := w (S_X11_isSound g) (rL N sc o d)) hu0 hu hg0 hg hf0 hf h1 h2 h3) 0 wd_1895 wd_68 wd_1892 wd_1893 wd_1894 (by decide +kernel) (by decide) (by decide) rfl ([.int (V_X11_isSound g)]) rfl (Nat.le_of_ble_eq_true rfl) ⟨by omega, by omega⟩ dL_law_3494 (fun _ _ _ q => q.elim) (fun v9 A_1 h9 hR9 => ?_)
  obtain ⟨rfl, hA_1, rfl⟩ := hR9
  refine v_st (k2 := (((170 + 30 * n + (vPh g + vPb m + vPw m)) + 0) + 0)) (n2 := (((3000 + 200 * n + 2 * (vPh g + vPb m + vPw m)) + 0) + 0)) (st2 := [.int (V_X12_isSound m), .int (V_X11_isSound g)]) rfl rfl rfl ?_
  obtain rfl := hA_1.symm
  refine v_icmp_eq (pc := 3497) (tgt := 3502) C dL_law_3497 (by decide) (fun c2 => ?_) (fun c2 => ?_)
  · skip
    refine v_lv (lv2 := [(5, .int (nI (5 * n))), (4, .ref (A (92, 0))), (3, .ref (A (91, 0))), (2, .ref (A (40, 0))), (1, .ref (A (0, 0))), (0, .ref (b))]) [0, 1, 2, 3, 4, 5] rfl ?_
    refine v_h (h2 := w (S_X11_isSound g) (wm (S_X12_isSound m) (rL N sc o d))) w_wm ?_
    refine v_widen (k2 := (170 + 30 * (n + 1) + (vPh (S_X11_isSound g) + vPb (S_X12_isSound m) + vPw (S_X12_isSound m)))) (n2 := (3000 + 200 * (n + 1) + 2 * (vPh (S_X11_isSound g) + vPb (S_X12_isSound m) + vPw (S_X12_isSound m)))) (by omega) (by omega) ?_
    exact k A (S_X11_isSound g) (S_X12_isSound m) o d vAs_r hP3
  · skip
    exact absurd hPV c2
